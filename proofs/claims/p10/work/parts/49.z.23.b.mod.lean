section
variable {p : Program} {l : Launch} {e : Env} {s : State} {m : MethodId} {args : Array Value} {below : List Frame} {meth : Method} {c : Code} {Ts : List Cond} {own : String} {D : va_G} {dA : Nat → ClassId} {B : Nat}
def f_Mod_goals_54 (N : Nat) (k2 : Nat → Int32 → z_H → Option z_H) (v0 : Nat) (v1 : Int32) (v2 : Int32) (h : z_H) : Option z_H :=
  z_b (gR h v0 12 18) fun x1 =>
  z_b (aI h x1 0 v2) fun x2 =>
  if x2 = (-1) then
  (z_b (some (v1 + 1)) fun x22 =>
  k2 v0 x22 h)
  else
  (z_b (gR h v0 12 39) fun x4 =>
  z_b (gR h v0 12 18) fun x5 =>
  z_b (aI h x5 0 v2) fun x6 =>
  z_b (aI h x4 0 x6) fun x7 =>
  if 0 ≤ x7 then
  (z_b (gR h v0 12 18) fun x9 =>
  z_b (gR h v0 12 39) fun x10 =>
  z_b (gR h v0 12 18) fun x11 =>
  z_b (aI h x11 0 v2) fun x12 =>
  z_b (aI h x10 0 x12) fun x13 =>
  z_b (gI h v0 12 42) fun x14 =>
  z_b (uI h x9 0 v2 ((x13 - (40 * x14)) + 1)) fun h15 =>
  z_b (some (v1 + 1)) fun x16 =>
  k2 v0 x16 h15)
  else
  (z_b (gR h v0 12 20) fun x17 =>
  z_b (aI h x17 0 v2) fun x18 =>
  z_b (gO h v0 12) fun u19 =>
  z_b (f_Mod_wrong N v0 x18 h) fun r20 =>
  z_b (some (v1 + 1)) fun x21 =>
  k2 v0 x21 r20))
set_option maxRecDepth 20000 in
set_option maxHeartbeats 2000000 in
theorem s_Mod_goals_54 (X : z_X p s m args meth c prog_14_method_35_code 3 none Ts "StreamForgeModel" D dA B) {N : Nat} {h' : z_H} {k2 : Nat → Int32 → z_H → Option z_H} (hk2 : ∀ (v0 : Nat) (v1 : Int32) (h : z_H) (H : Heap) (locs : List Loc) (ls : Array Slot), z_I D dA B h s.heap H locs → lv_has ls 3 [(0, .ref v0), (1, .int v1)] → k2 v0 v1 h = some h' → W p l e (z_rm 1 21) s m args below meth c H locs 0 0 (MQ below (z_Q D dA B none h') args s 0 0 (fun q => B ≤ q)) (F0 m 2 ls [])) : ∀ (v0 : Nat) (v1 : Int32) (v2 : Int32) (h : z_H) (H : Heap) (locs : List Loc) (ls : Array Slot), z_I D dA B h s.heap H locs → lv_has ls 3 [(0, .ref v0), (1, .int v1), (2, .int v2)] → f_Mod_goals_54 N k2 v0 v1 v2 h = some h' → W p l e (z_rm 1 21) s m args below meth c H locs 0 0 (MQ below (z_Q D dA B none h') args s 0 0 (fun q => B ≤ q)) (F0 m 54 ls []) := by
  have hx := z_hx X
  have hb := z_hb X
  intro v0 v1 v2 h H locs ls hI hl hf
  unfold f_Mod_goals_54 at hf
  refine lv_aload_n hx hb d_Mod_goals_54 rfl (lv_at hl 0 rfl) ?_
  obtain ⟨x1, ex1, hf⟩ := z_bs hf
  refine z_getF X hI (k := 18) (ci := 12) (gR_s ex1) i_Mod rfl (by decide) wf_Mod_50 d_Mod_goals_55 ?_
  refine lv_iload_n hx hb d_Mod_goals_58 rfl (lv_at hl 2 rfl) ?_
  obtain ⟨x2, ex2, hf⟩ := z_bs hf
  refine z_iald X hI ex2 d_Mod_goals_59 ?_
  refine lv_iconst (v := (-1)) hx hb d_Mod_goals_60 (by decide) ?_
  refine lv_icmp_ne (tgt := 67) hx hb d_Mod_goals_61 (by decide) (fun c3 => ?_) (fun c3 => ?_)
  · rw [if_neg c3] at hf
    refine lv_aload_n hx hb d_Mod_goals_67 rfl (lv_at hl 0 rfl) ?_
    obtain ⟨x4, ex4, hf⟩ := z_bs hf
    refine z_getF X hI (k := 39) (ci := 12) (gR_s ex4) i_Mod rfl (by decide) wf_Mod_115 d_Mod_goals_68 ?_
    refine lv_aload_n hx hb d_Mod_goals_71 rfl (lv_at hl 0 rfl) ?_
    obtain ⟨x5, ex5, hf⟩ := z_bs hf
    refine z_getF X hI (k := 18) (ci := 12) (gR_s ex5) i_Mod rfl (by decide) wf_Mod_50 d_Mod_goals_72 ?_
    refine lv_iload_n hx hb d_Mod_goals_75 rfl (lv_at hl 2 rfl) ?_
    obtain ⟨x6, ex6, hf⟩ := z_bs hf
    refine z_iald X hI ex6 d_Mod_goals_76 ?_
    obtain ⟨x7, ex7, hf⟩ := z_bs hf
    refine z_iald X hI ex7 d_Mod_goals_77 ?_
    refine lv_if_ge (tgt := 94) hx hb d_Mod_goals_78 (by decide) (fun c8 => ?_) (fun c8 => ?_)
    · rw [if_pos c8] at hf
      refine lv_aload_n hx hb d_Mod_goals_94 rfl (lv_at hl 0 rfl) ?_
      obtain ⟨x9, ex9, hf⟩ := z_bs hf
      refine z_getF X hI (k := 18) (ci := 12) (gR_s ex9) i_Mod rfl (by decide) wf_Mod_50 d_Mod_goals_95 ?_
      refine lv_iload_n hx hb d_Mod_goals_98 rfl (lv_at hl 2 rfl) ?_
      refine lv_aload_n hx hb d_Mod_goals_99 rfl (lv_at hl 0 rfl) ?_
      obtain ⟨x10, ex10, hf⟩ := z_bs hf
      refine z_getF X hI (k := 39) (ci := 12) (gR_s ex10) i_Mod rfl (by decide) wf_Mod_115 d_Mod_goals_100 ?_
      refine lv_aload_n hx hb d_Mod_goals_103 rfl (lv_at hl 0 rfl) ?_
      obtain ⟨x11, ex11, hf⟩ := z_bs hf
      refine z_getF X hI (k := 18) (ci := 12) (gR_s ex11) i_Mod rfl (by decide) wf_Mod_50 d_Mod_goals_104 ?_
      refine lv_iload_n hx hb d_Mod_goals_107 rfl (lv_at hl 2 rfl) ?_
      obtain ⟨x12, ex12, hf⟩ := z_bs hf
      refine z_iald X hI ex12 d_Mod_goals_108 ?_
      obtain ⟨x13, ex13, hf⟩ := z_bs hf
      refine z_iald X hI ex13 d_Mod_goals_109 ?_
      refine lv_bipush (v := 40) hx hb d_Mod_goals_110 (by decide) ?_
      refine lv_aload_n hx hb d_Mod_goals_112 rfl (lv_at hl 0 rfl) ?_
      obtain ⟨x14, ex14, hf⟩ := z_bs hf
      refine z_getF X hI (k := 42) (ci := 12) (gI_s ex14) i_Mod rfl (by decide) wf_Mod_191 d_Mod_goals_113 ?_
      refine lv_imul hx hb d_Mod_goals_116 ?_
      refine lv_isub hx hb d_Mod_goals_117 ?_
      refine lv_iconst (v := 1) hx hb d_Mod_goals_118 (by decide) ?_
      refine lv_iadd hx hb d_Mod_goals_119 ?_
      obtain ⟨h15, eh15, hf⟩ := z_bs hf
      refine z_iast X hI eh15 d_Mod_goals_120 (fun H locs hI => ?_)
      obtain ⟨x16, ex16, hf⟩ := z_bs hf
      refine lv_iinc (v := x16) (lv' := [(1, .int x16), (0, .ref v0), (2, .int v2)]) hx hb d_Mod_goals_121 hl (k := 1) rfl (by rw [← Option.some.inj ex16]; rfl) (by decide) rfl (fun ls hl => ?_)
      refine lv_goto (tgt := 2) hx hb d_Mod_goals_124 (by decide) ?_
      exact hk2 v0 x16 h15 _ _ _ hI (lv_sub hl [1, 0] rfl) hf
    · rw [if_neg c8] at hf
      refine lv_aload_n hx hb d_Mod_goals_81 rfl (lv_at hl 0 rfl) ?_
      refine lv_aload_n hx hb d_Mod_goals_82 rfl (lv_at hl 0 rfl) ?_
      obtain ⟨x17, ex17, hf⟩ := z_bs hf
      refine z_getF X hI (k := 20) (ci := 12) (gR_s ex17) i_Mod rfl (by decide) wf_Mod_56 d_Mod_goals_83 ?_
      refine lv_iload_n hx hb d_Mod_goals_86 rfl (lv_at hl 2 rfl) ?_
      obtain ⟨x18, ex18, hf⟩ := z_bs hf
      refine z_iald X hI ex18 d_Mod_goals_87 ?_
      obtain ⟨u19, eu19, hf⟩ := z_bs hf
      obtain ⟨r20, er20, hf⟩ := z_bs hf
      refine z_callV (As := [.int x18]) (rest := []) (r := none) (h' := r20) X hI eu19 (s_Mod_wrong er20) rfl rfl wm_Mod_187 yi_Mod_wrong rfl hl.1 rfl (Nat.le_of_ble_eq_true rfl) (by decide) (by decide) d_Mod_goals_88 (fun H locs hI => ?_)
      refine W.eq (g2 := F0 m 91 ls []) rfl ?_
      refine lv_goto (tgt := 121) hx hb d_Mod_goals_91 (by decide) ?_
      obtain ⟨x21, ex21, hf⟩ := z_bs hf
      refine lv_iinc (v := x21) (lv' := [(1, .int x21), (0, .ref v0), (2, .int v2)]) hx hb d_Mod_goals_121 hl (k := 1) rfl (by rw [← Option.some.inj ex21]; rfl) (by decide) rfl (fun ls hl => ?_)
      refine lv_goto (tgt := 2) hx hb d_Mod_goals_124 (by decide) ?_
      exact hk2 v0 x21 r20 _ _ _ hI (lv_sub hl [1, 0] rfl) hf
  · rw [if_pos c3] at hf
    refine lv_goto (tgt := 121) hx hb d_Mod_goals_64 (by decide) ?_
    obtain ⟨x22, ex22, hf⟩ := z_bs hf
    refine lv_iinc (v := x22) (lv' := [(1, .int x22), (0, .ref v0), (2, .int v2)]) hx hb d_Mod_goals_121 hl (k := 1) rfl (by rw [← Option.some.inj ex22]; rfl) (by decide) rfl (fun ls hl => ?_)
    refine lv_goto (tgt := 2) hx hb d_Mod_goals_124 (by decide) ?_
    exact hk2 v0 x22 h _ _ _ hI (lv_sub hl [1, 0] rfl) hf
def f_Mod_goals_2 (N : Nat)  : Nat → Nat → Int32 → z_H → Option z_H
  | 0, _, _, _ => none
  | n + 1, v0, v1, h =>
    z_b (gR h v0 12 24) fun x1 =>
    z_b (gI h v0 12 42) fun x2 =>
    z_b (aI h x1 0 x2) fun x3 =>
    if x3 ≤ v1 then
    (some h)
    else
    (z_b (gI h v0 12 48) fun x5 =>
    if x5 = 0 then
    (z_b (gI h v0 12 42) fun x7 =>
    z_b (some ((40 * x7) + v1)) fun x8 =>
    z_b (gR h v0 12 9) fun x9 =>
    z_b (aI h x9 0 x8) fun x10 =>
    if x10 = 98 then
    (f_Mod_goals_54 N (f_Mod_goals_2 N  n) v0 v1 x8 h)
    else
    (z_b (gR h v0 12 9) fun x12 =>
    z_b (aI h x12 0 x8) fun x13 =>
    if x13 = 116 then
    (f_Mod_goals_54 N (f_Mod_goals_2 N  n) v0 v1 x8 h)
    else
    (z_b (some (v1 + 1)) fun x15 =>
    (f_Mod_goals_2 N  n) v0 x15 h)))
    else
    (some h))
set_option maxRecDepth 20000 in
set_option maxHeartbeats 2000000 in
theorem s_Mod_goals_2 (X : z_X p s m args meth c prog_14_method_35_code 3 none Ts "StreamForgeModel" D dA B) {N : Nat} {h' : z_H}   : ∀ n : Nat, ∀ (v0 : Nat) (v1 : Int32) (h : z_H) (H : Heap) (locs : List Loc) (ls : Array Slot), z_I D dA B h s.heap H locs → lv_has ls 3 [(0, .ref v0), (1, .int v1)] → f_Mod_goals_2 N  n v0 v1 h = some h' → W p l e (z_rm 1 21) s m args below meth c H locs 0 0 (MQ below (z_Q D dA B none h') args s 0 0 (fun q => B ≤ q)) (F0 m 2 ls []) := by
  have hx := z_hx X
  have hb := z_hb X
  intro n
  induction n with
  | zero => intro v0 v1 h H locs ls hI hl hf; rw [f_Mod_goals_2] at hf; cases hf
  | succ n ih =>
    intro v0 v1 h H locs ls hI hl hf
    rw [f_Mod_goals_2] at hf
    refine lv_iload_n hx hb d_Mod_goals_2 rfl (lv_at hl 1 rfl) ?_
    refine lv_aload_n hx hb d_Mod_goals_3 rfl (lv_at hl 0 rfl) ?_
    obtain ⟨x1, ex1, hf⟩ := z_bs hf
    refine z_getF X hI (k := 24) (ci := 12) (gR_s ex1) i_Mod rfl (by decide) wf_Mod_69 d_Mod_goals_4 ?_
    refine lv_aload_n hx hb d_Mod_goals_7 rfl (lv_at hl 0 rfl) ?_
    obtain ⟨x2, ex2, hf⟩ := z_bs hf
    refine z_getF X hI (k := 42) (ci := 12) (gI_s ex2) i_Mod rfl (by decide) wf_Mod_191 d_Mod_goals_8 ?_
    obtain ⟨x3, ex3, hf⟩ := z_bs hf
    refine z_iald X hI ex3 d_Mod_goals_11 ?_
    refine lv_icmp_ge (tgt := 127) hx hb d_Mod_goals_12 (by decide) (fun c4 => ?_) (fun c4 => ?_)
    · rw [if_pos c4] at hf
      cases hf
      exact z_vret X hI d_Mod_goals_127
    · rw [if_neg c4] at hf
      refine lv_aload_n hx hb d_Mod_goals_15 rfl (lv_at hl 0 rfl) ?_
      obtain ⟨x5, ex5, hf⟩ := z_bs hf
      refine z_getF X hI (k := 48) (ci := 12) (gI_s ex5) i_Mod rfl (by decide) wf_Mod_179 d_Mod_goals_16 ?_
      refine lv_if_ne (tgt := 127) hx hb d_Mod_goals_19 (by decide) (fun c6 => ?_) (fun c6 => ?_)
      · rw [if_neg c6] at hf
        cases hf
        exact z_vret X hI d_Mod_goals_127
      · rw [if_pos c6] at hf
        refine lv_bipush (v := 40) hx hb d_Mod_goals_22 (by decide) ?_
        refine lv_aload_n hx hb d_Mod_goals_24 rfl (lv_at hl 0 rfl) ?_
        obtain ⟨x7, ex7, hf⟩ := z_bs hf
        refine z_getF X hI (k := 42) (ci := 12) (gI_s ex7) i_Mod rfl (by decide) wf_Mod_191 d_Mod_goals_25 ?_
        refine lv_imul hx hb d_Mod_goals_28 ?_
        refine lv_iload_n hx hb d_Mod_goals_29 rfl (lv_at hl 1 rfl) ?_
        refine lv_iadd hx hb d_Mod_goals_30 ?_
        obtain ⟨x8, ex8, hf⟩ := z_bs hf
        refine z_topi (Option.some.inj ex8) ?_
        refine lv_istore_n (lv' := [(2, .int x8), (0, .ref v0), (1, .int v1)]) hx hb d_Mod_goals_31 rfl hl (by decide) rfl (fun ls hl => ?_)
        refine lv_aload_n hx hb d_Mod_goals_32 rfl (lv_at hl 1 rfl) ?_
        obtain ⟨x9, ex9, hf⟩ := z_bs hf
        refine z_getF X hI (k := 9) (ci := 12) (gR_s ex9) i_Mod rfl (by decide) wf_Mod_23 d_Mod_goals_33 ?_
        refine lv_iload_n hx hb d_Mod_goals_36 rfl (lv_at hl 0 rfl) ?_
        obtain ⟨x10, ex10, hf⟩ := z_bs hf
        refine z_iald X hI ex10 d_Mod_goals_37 ?_
        refine lv_bipush (v := 98) hx hb d_Mod_goals_38 (by decide) ?_
        refine lv_icmp_eq (tgt := 54) hx hb d_Mod_goals_40 (by decide) (fun c11 => ?_) (fun c11 => ?_)
        · rw [if_pos c11] at hf
          exact s_Mod_goals_54 X ih v0 v1 x8 h _ _ _ hI (lv_sub hl [1, 2, 0] rfl) hf
        · rw [if_neg c11] at hf
          refine lv_aload_n hx hb d_Mod_goals_43 rfl (lv_at hl 1 rfl) ?_
          obtain ⟨x12, ex12, hf⟩ := z_bs hf
          refine z_getF X hI (k := 9) (ci := 12) (gR_s ex12) i_Mod rfl (by decide) wf_Mod_23 d_Mod_goals_44 ?_
          refine lv_iload_n hx hb d_Mod_goals_47 rfl (lv_at hl 0 rfl) ?_
          obtain ⟨x13, ex13, hf⟩ := z_bs hf
          refine z_iald X hI ex13 d_Mod_goals_48 ?_
          refine lv_bipush (v := 116) hx hb d_Mod_goals_49 (by decide) ?_
          refine lv_icmp_ne (tgt := 121) hx hb d_Mod_goals_51 (by decide) (fun c14 => ?_) (fun c14 => ?_)
          · rw [if_neg c14] at hf
            obtain ⟨x15, ex15, hf⟩ := z_bs hf
            refine lv_iinc (v := x15) (lv' := [(1, .int x15), (2, .int x8), (0, .ref v0)]) hx hb d_Mod_goals_121 hl (k := 2) rfl (by rw [← Option.some.inj ex15]; rfl) (by decide) rfl (fun ls hl => ?_)
            refine lv_goto (tgt := 2) hx hb d_Mod_goals_124 (by decide) ?_
            exact ih v0 x15 h _ _ _ hI (lv_sub hl [2, 0] rfl) hf
          · rw [if_pos c14] at hf
            exact s_Mod_goals_54 X ih v0 v1 x8 h _ _ _ hI (lv_sub hl [1, 2, 0] rfl) hf
def f_Mod_goals (N : Nat) (v0 : Nat) (h : z_H) : Option z_H :=
  f_Mod_goals_2 N N v0 0 h
set_option maxRecDepth 20000 in
set_option maxHeartbeats 2000000 in
theorem s_Mod_goals {l : Launch} {D : va_G} {dA : Nat → ClassId} {B N : Nat} {v0 : Nat} {h h' : z_H} (hf : f_Mod_goals N v0 h = some h') : z_Met l y_Mod_goals prog_14_method_35_code 3 none 1 21 D dA B [.ref v0] h none h' := by
  refine z_of (by decide) (Nat.le_of_ble_eq_true rfl) (fun p e s m below meth c ls X hI hl => ?_)
  have hx := z_hx X
  have hb := z_hb X
  have hl : lv_has ls 3 [(0, .ref v0)] := hl
  unfold f_Mod_goals at hf
  obtain ⟨locs, hlo⟩ : ∃ z : List Loc, z = [] := ⟨_, rfl⟩
  rw [← hlo] at hI ⊢
  refine lv_iconst (v := 0) hx hb d_Mod_goals_0 (by decide) ?_
  refine lv_istore_n (lv' := [(1, .int 0), (0, .ref v0)]) hx hb d_Mod_goals_1 rfl hl (by decide) rfl (fun ls hl => ?_)
  exact s_Mod_goals_2 X  N v0 0 h _ _ _ hI (lv_sub hl [1, 0] rfl) hf
def f_Mod_parse_138 (N : Nat) (k92 : Nat → z_H → Option (Int32 × z_H)) (v0 : Nat) (h : z_H) : Option (Int32 × z_H) :=
  z_b (gI h v0 12 41) fun x1 =>
  z_b (sF h v0 12 41 (.int (x1 + 1))) fun h2 =>
  k92 v0 h2
set_option maxRecDepth 20000 in
set_option maxHeartbeats 2000000 in
theorem s_Mod_parse_138 (X : z_X p s m args meth c prog_14_method_36_code 2 (some .int) Ts "StreamForgeModel" D dA B) {N : Nat} {r : Int32} {h' : z_H} {k92 : Nat → z_H → Option (Int32 × z_H)} (hk92 : ∀ (v0 : Nat) (h : z_H) (H : Heap) (locs : List Loc) (ls : Array Slot), z_I D dA B h s.heap H locs → lv_has ls 2 [(0, .ref v0)] → k92 v0 h = some (r, h') → W p l e (z_rm 6 140) s m args below meth c H locs 0 0 (MQ below (z_Q D dA B (some (.int r)) h') args s 0 0 (fun q => B ≤ q)) (F0 m 92 ls [])) : ∀ (v0 : Nat) (h : z_H) (H : Heap) (locs : List Loc) (ls : Array Slot), z_I D dA B h s.heap H locs → lv_has ls 2 [(0, .ref v0)] → f_Mod_parse_138 N k92 v0 h = some (r, h') → W p l e (z_rm 6 140) s m args below meth c H locs 0 0 (MQ below (z_Q D dA B (some (.int r)) h') args s 0 0 (fun q => B ≤ q)) (F0 m 138 ls []) := by
  have hx := z_hx X
  have hb := z_hb X
  intro v0 h H locs ls hI hl hf
  unfold f_Mod_parse_138 at hf
  refine lv_aload_n hx hb d_Mod_parse_138 rfl (lv_at hl 0 rfl) ?_
  refine lv_dup hx hb d_Mod_parse_139 rfl ?_
  obtain ⟨x1, ex1, hf⟩ := z_bs hf
  refine z_getF X hI (k := 41) (ci := 12) (gI_s ex1) i_Mod rfl (by decide) wf_Mod_176 d_Mod_parse_140 ?_
  refine lv_iconst (v := 1) hx hb d_Mod_parse_143 (by decide) ?_
  refine lv_iadd hx hb d_Mod_parse_144 ?_
  obtain ⟨h2, eh2, hf⟩ := z_bs hf
  refine z_putF X hI (k := 41) (ci := 12) (ty0 := t_Mod) eh2 i_Mod t_Mod_ok n_Mod rfl (by decide) wf_Mod_176 rfl rfl rfl d_Mod_parse_145 (fun H locs hI => ?_)
  refine lv_goto (tgt := 225) hx hb d_Mod_parse_148 (by decide) ?_
  refine lv_goto (tgt := 92) hx hb d_Mod_parse_225 (by decide) ?_
  exact hk92 v0 h2 _ _ _ hI (lv_sub hl [0] rfl) hf
def f_Mod_parse_208 (N : Nat) (k92 : Nat → z_H → Option (Int32 × z_H)) (v0 : Nat) (h : z_H) : Option (Int32 × z_H) :=
  z_b (gI h v0 12 41) fun x1 =>
  z_b (sF h v0 12 41 (.int (x1 + 1))) fun h2 =>
  k92 v0 h2
set_option maxRecDepth 20000 in
set_option maxHeartbeats 2000000 in
theorem s_Mod_parse_208 (X : z_X p s m args meth c prog_14_method_36_code 2 (some .int) Ts "StreamForgeModel" D dA B) {N : Nat} {r : Int32} {h' : z_H} {k92 : Nat → z_H → Option (Int32 × z_H)} (hk92 : ∀ (v0 : Nat) (h : z_H) (H : Heap) (locs : List Loc) (ls : Array Slot), z_I D dA B h s.heap H locs → lv_has ls 2 [(0, .ref v0)] → k92 v0 h = some (r, h') → W p l e (z_rm 6 140) s m args below meth c H locs 0 0 (MQ below (z_Q D dA B (some (.int r)) h') args s 0 0 (fun q => B ≤ q)) (F0 m 92 ls [])) : ∀ (v0 : Nat) (h : z_H) (H : Heap) (locs : List Loc) (ls : Array Slot), z_I D dA B h s.heap H locs → lv_has ls 2 [(0, .ref v0)] → f_Mod_parse_208 N k92 v0 h = some (r, h') → W p l e (z_rm 6 140) s m args below meth c H locs 0 0 (MQ below (z_Q D dA B (some (.int r)) h') args s 0 0 (fun q => B ≤ q)) (F0 m 208 ls []) := by
  have hx := z_hx X
  have hb := z_hb X
  intro v0 h H locs ls hI hl hf
  unfold f_Mod_parse_208 at hf
  refine lv_aload_n hx hb d_Mod_parse_208 rfl (lv_at hl 0 rfl) ?_
  refine lv_dup hx hb d_Mod_parse_209 rfl ?_
  obtain ⟨x1, ex1, hf⟩ := z_bs hf
  refine z_getF X hI (k := 41) (ci := 12) (gI_s ex1) i_Mod rfl (by decide) wf_Mod_176 d_Mod_parse_210 ?_
  refine lv_iconst (v := 1) hx hb d_Mod_parse_213 (by decide) ?_
  refine lv_iadd hx hb d_Mod_parse_214 ?_
  obtain ⟨h2, eh2, hf⟩ := z_bs hf
  refine z_putF X hI (k := 41) (ci := 12) (ty0 := t_Mod) eh2 i_Mod t_Mod_ok n_Mod rfl (by decide) wf_Mod_176 rfl rfl rfl d_Mod_parse_215 (fun H locs hI => ?_)
  refine lv_goto (tgt := 225) hx hb d_Mod_parse_218 (by decide) ?_
  refine lv_goto (tgt := 92) hx hb d_Mod_parse_225 (by decide) ?_
  exact hk92 v0 h2 _ _ _ hI (lv_sub hl [0] rfl) hf
def f_Mod_parse_250 (N : Nat)  (v0 : Nat) (h : z_H) : Option (Int32 × z_H) :=
  z_b (gO h v0 12) fun u1 =>
  z_b (f_Mod_goals N v0 h) fun r2 =>
  z_b (gI r2 v0 12 48) fun x3 =>
  if x3 = 0 then
  (z_b (sF r2 v0 12 6 (.int 0)) fun h5 =>
  z_b (gI h5 v0 12 42) fun x6 =>
  z_b (sF h5 v0 12 7 (.int x6)) fun h7 =>
  z_b (sF h7 v0 12 8 (.int 1)) fun h8 =>
  z_b (gR h8 v0 12 24) fun x9 =>
  z_b (gI h8 v0 12 7) fun x10 =>
  z_b (aI h8 x9 0 x10) fun x11 =>
  some (x11, h8))
  else
  (z_b (gO r2 v0 12) fun u12 =>
  z_b (f_Mod_fail N v0 1 r2) fun r13 =>
  some (r13.1, r13.2))
set_option maxRecDepth 20000 in
set_option maxHeartbeats 2000000 in
theorem s_Mod_parse_250 (X : z_X p s m args meth c prog_14_method_36_code 2 (some .int) Ts "StreamForgeModel" D dA B) {N : Nat} {r : Int32} {h' : z_H}   : ∀ (v0 : Nat) (h : z_H) (H : Heap) (locs : List Loc) (ls : Array Slot), z_I D dA B h s.heap H locs → lv_has ls 2 [(0, .ref v0)] → f_Mod_parse_250 N  v0 h = some (r, h') → W p l e (z_rm 6 140) s m args below meth c H locs 0 0 (MQ below (z_Q D dA B (some (.int r)) h') args s 0 0 (fun q => B ≤ q)) (F0 m 250 ls []) := by
  have hx := z_hx X
  have hb := z_hb X
  intro v0 h H locs ls hI hl hf
  unfold f_Mod_parse_250 at hf
  refine lv_aload_n hx hb d_Mod_parse_250 rfl (lv_at hl 0 rfl) ?_
  obtain ⟨u1, eu1, hf⟩ := z_bs hf
  obtain ⟨r2, er2, hf⟩ := z_bs hf
  refine z_callV (As := []) (rest := []) (r := none) (h' := r2) X hI eu1 (s_Mod_goals er2) rfl rfl wm_Mod_290 yi_Mod_goals rfl hl.1 rfl (Nat.le_of_ble_eq_true rfl) (by decide) (by decide) d_Mod_parse_251 (fun H locs hI => ?_)
  refine W.eq (g2 := F0 m 254 ls []) rfl ?_
  refine lv_aload_n hx hb d_Mod_parse_254 rfl (lv_at hl 0 rfl) ?_
  obtain ⟨x3, ex3, hf⟩ := z_bs hf
  refine z_getF X hI (k := 48) (ci := 12) (gI_s ex3) i_Mod rfl (by decide) wf_Mod_179 d_Mod_parse_255 ?_
  refine lv_if_eq (tgt := 267) hx hb d_Mod_parse_258 (by decide) (fun c4 => ?_) (fun c4 => ?_)
  · rw [if_pos c4] at hf
    refine lv_aload_n hx hb d_Mod_parse_267 rfl (lv_at hl 0 rfl) ?_
    refine lv_iconst (v := 0) hx hb d_Mod_parse_268 (by decide) ?_
    obtain ⟨h5, eh5, hf⟩ := z_bs hf
    refine z_putF X hI (k := 6) (ci := 12) (ty0 := t_Mod) eh5 i_Mod t_Mod_ok n_Mod rfl (by decide) wf_Mod_151 rfl rfl rfl d_Mod_parse_269 (fun H locs hI => ?_)
    refine lv_aload_n hx hb d_Mod_parse_272 rfl (lv_at hl 0 rfl) ?_
    refine lv_aload_n hx hb d_Mod_parse_273 rfl (lv_at hl 0 rfl) ?_
    obtain ⟨x6, ex6, hf⟩ := z_bs hf
    refine z_getF X hI (k := 42) (ci := 12) (gI_s ex6) i_Mod rfl (by decide) wf_Mod_191 d_Mod_parse_274 ?_
    obtain ⟨h7, eh7, hf⟩ := z_bs hf
    refine z_putF X hI (k := 7) (ci := 12) (ty0 := t_Mod) eh7 i_Mod t_Mod_ok n_Mod rfl (by decide) wf_Mod_284 rfl rfl rfl d_Mod_parse_277 (fun H locs hI => ?_)
    refine lv_aload_n hx hb d_Mod_parse_280 rfl (lv_at hl 0 rfl) ?_
    refine lv_iconst (v := 1) hx hb d_Mod_parse_281 (by decide) ?_
    obtain ⟨h8, eh8, hf⟩ := z_bs hf
    refine z_putF X hI (k := 8) (ci := 12) (ty0 := t_Mod) eh8 i_Mod t_Mod_ok n_Mod rfl (by decide) wf_Mod_293 rfl rfl rfl d_Mod_parse_282 (fun H locs hI => ?_)
    refine lv_aload_n hx hb d_Mod_parse_285 rfl (lv_at hl 0 rfl) ?_
    obtain ⟨x9, ex9, hf⟩ := z_bs hf
    refine z_getF X hI (k := 24) (ci := 12) (gR_s ex9) i_Mod rfl (by decide) wf_Mod_69 d_Mod_parse_286 ?_
    refine lv_aload_n hx hb d_Mod_parse_289 rfl (lv_at hl 0 rfl) ?_
    obtain ⟨x10, ex10, hf⟩ := z_bs hf
    refine z_getF X hI (k := 7) (ci := 12) (gI_s ex10) i_Mod rfl (by decide) wf_Mod_284 d_Mod_parse_290 ?_
    obtain ⟨x11, ex11, hf⟩ := z_bs hf
    refine z_iald X hI ex11 d_Mod_parse_293 ?_
    cases hf
    exact z_iret X hI d_Mod_parse_294
  · rw [if_neg c4] at hf
    refine lv_aload_n hx hb d_Mod_parse_261 rfl (lv_at hl 0 rfl) ?_
    refine lv_iconst (v := 1) hx hb d_Mod_parse_262 (by decide) ?_
    obtain ⟨u12, eu12, hf⟩ := z_bs hf
    obtain ⟨r13, er13, hf⟩ := z_bs hf
    refine z_callV (As := [.int 1]) (rest := []) (r := (some (.int r13.1))) (h' := r13.2) X hI eu12 (s_Mod_fail er13) rfl rfl wm_Mod_162 yi_Mod_fail rfl hl.1 rfl (Nat.le_of_ble_eq_true rfl) (by decide) (by decide) d_Mod_parse_263 (fun H locs hI => ?_)
    refine W.eq (g2 := F0 m 266 ls [.int (r13.1)]) rfl ?_
    cases hf
    exact z_iret X hI d_Mod_parse_266
def f_Mod_parse_228 (N : Nat)  (v0 : Nat) (h : z_H) : Option (Int32 × z_H) :=
  z_b (gI h v0 12 48) fun x1 =>
  if x1 = 0 then
  (z_b (gI h v0 12 43) fun x3 =>
  if x3 ≤ 0 then
  (f_Mod_parse_250 N v0 h)
  else
  (z_b (gI h v0 12 3) fun x5 =>
  z_b (gO h v0 12) fun u6 =>
  z_b (f_Mod_wrong N v0 x5 h) fun r7 =>
  f_Mod_parse_250 N v0 r7))
  else
  (f_Mod_parse_250 N v0 h)
set_option maxRecDepth 20000 in
set_option maxHeartbeats 2000000 in
theorem s_Mod_parse_228 (X : z_X p s m args meth c prog_14_method_36_code 2 (some .int) Ts "StreamForgeModel" D dA B) {N : Nat} {r : Int32} {h' : z_H}   : ∀ (v0 : Nat) (h : z_H) (H : Heap) (locs : List Loc) (ls : Array Slot), z_I D dA B h s.heap H locs → lv_has ls 2 [(0, .ref v0)] → f_Mod_parse_228 N  v0 h = some (r, h') → W p l e (z_rm 6 140) s m args below meth c H locs 0 0 (MQ below (z_Q D dA B (some (.int r)) h') args s 0 0 (fun q => B ≤ q)) (F0 m 228 ls []) := by
  have hx := z_hx X
  have hb := z_hb X
  intro v0 h H locs ls hI hl hf
  unfold f_Mod_parse_228 at hf
  refine lv_aload_n hx hb d_Mod_parse_228 rfl (lv_at hl 0 rfl) ?_
  obtain ⟨x1, ex1, hf⟩ := z_bs hf
  refine z_getF X hI (k := 48) (ci := 12) (gI_s ex1) i_Mod rfl (by decide) wf_Mod_179 d_Mod_parse_229 ?_
  refine lv_if_ne (tgt := 250) hx hb d_Mod_parse_232 (by decide) (fun c2 => ?_) (fun c2 => ?_)
  · rw [if_neg c2] at hf
    exact s_Mod_parse_250 X  v0 h _ _ _ hI (lv_sub hl [0] rfl) hf
  · rw [if_pos c2] at hf
    refine lv_aload_n hx hb d_Mod_parse_235 rfl (lv_at hl 0 rfl) ?_
    obtain ⟨x3, ex3, hf⟩ := z_bs hf
    refine z_getF X hI (k := 43) (ci := 12) (gI_s ex3) i_Mod rfl (by decide) wf_Mod_261 d_Mod_parse_236 ?_
    refine lv_if_le (tgt := 250) hx hb d_Mod_parse_239 (by decide) (fun c4 => ?_) (fun c4 => ?_)
    · rw [if_pos c4] at hf
      exact s_Mod_parse_250 X  v0 h _ _ _ hI (lv_sub hl [0] rfl) hf
    · rw [if_neg c4] at hf
      refine lv_aload_n hx hb d_Mod_parse_242 rfl (lv_at hl 0 rfl) ?_
      refine lv_aload_n hx hb d_Mod_parse_243 rfl (lv_at hl 0 rfl) ?_
      obtain ⟨x5, ex5, hf⟩ := z_bs hf
      refine z_getF X hI (k := 3) (ci := 12) (gI_s ex5) i_Mod rfl (by decide) wf_Mod_166 d_Mod_parse_244 ?_
      obtain ⟨u6, eu6, hf⟩ := z_bs hf
      obtain ⟨r7, er7, hf⟩ := z_bs hf
      refine z_callV (As := [.int x5]) (rest := []) (r := none) (h' := r7) X hI eu6 (s_Mod_wrong er7) rfl rfl wm_Mod_187 yi_Mod_wrong rfl hl.1 rfl (Nat.le_of_ble_eq_true rfl) (by decide) (by decide) d_Mod_parse_247 (fun H locs hI => ?_)
      refine W.eq (g2 := F0 m 250 ls []) rfl ?_
      exact s_Mod_parse_250 X  v0 r7 _ _ _ hI (lv_sub hl [0] rfl) hf
def f_Mod_parse_92 (N : Nat)  : Nat → Nat → z_H → Option (Int32 × z_H)
  | 0, _, _ => none
  | n + 1, v0, h =>
    z_b (gI h v0 12 48) fun x1 =>
    if x1 = 0 then
    (z_b (gI h v0 12 41) fun x3 =>
    z_b (gI h v0 12 3) fun x4 =>
    if x4 ≤ x3 then
    (f_Mod_parse_228 N v0 h)
    else
    (z_b (gR h v0 12 0) fun x6 =>
    z_b (gI h v0 12 41) fun x7 =>
    z_b (aI h x6 0 x7) fun x8 =>
    if x8 = 32 then
    (f_Mod_parse_138 N (f_Mod_parse_92 N  n) v0 h)
    else
    (if x8 = 10 then
    (f_Mod_parse_138 N (f_Mod_parse_92 N  n) v0 h)
    else
    (if x8 = 59 then
    (f_Mod_parse_138 N (f_Mod_parse_92 N  n) v0 h)
    else
    (if x8 = 125 then
    (z_b (gI h v0 12 43) fun x15 =>
    if x15 = 0 then
    (z_b (gI h v0 12 41) fun x27 =>
    z_b (gO h v0 12) fun u28 =>
    z_b (f_Mod_wrong N v0 x27 h) fun r29 =>
    f_Mod_parse_208 N (f_Mod_parse_92 N  n) v0 r29)
    else
    (z_b (gI h v0 12 43) fun x17 =>
    z_b (sF h v0 12 43 (.int (x17 - 1))) fun h18 =>
    z_b (gR h18 v0 12 18) fun x19 =>
    z_b (gR h18 v0 12 40) fun x20 =>
    z_b (gI h18 v0 12 43) fun x21 =>
    z_b (aI h18 x20 0 x21) fun x22 =>
    z_b (gR h18 v0 12 24) fun x23 =>
    z_b (gI h18 v0 12 42) fun x24 =>
    z_b (aI h18 x23 0 x24) fun x25 =>
    z_b (uI h18 x19 0 x22 x25) fun h26 =>
    f_Mod_parse_208 N (f_Mod_parse_92 N  n) v0 h26))
    else
    (z_b (gO h v0 12) fun u13 =>
    z_b (f_Mod_command N v0 h) fun r14 =>
    (f_Mod_parse_92 N  n) v0 r14))))))
    else
    (f_Mod_parse_228 N v0 h)
set_option maxRecDepth 20000 in
set_option maxHeartbeats 2000000 in
theorem s_Mod_parse_92 (X : z_X p s m args meth c prog_14_method_36_code 2 (some .int) Ts "StreamForgeModel" D dA B) {N : Nat} {r : Int32} {h' : z_H}   : ∀ n : Nat, ∀ (v0 : Nat) (h : z_H) (H : Heap) (locs : List Loc) (ls : Array Slot), z_I D dA B h s.heap H locs → lv_has ls 2 [(0, .ref v0)] → f_Mod_parse_92 N  n v0 h = some (r, h') → W p l e (z_rm 6 140) s m args below meth c H locs 0 0 (MQ below (z_Q D dA B (some (.int r)) h') args s 0 0 (fun q => B ≤ q)) (F0 m 92 ls []) := by
  have hx := z_hx X
  have hb := z_hb X
  intro n
  induction n with
  | zero => intro v0 h H locs ls hI hl hf; rw [f_Mod_parse_92] at hf; cases hf
  | succ n ih =>
    intro v0 h H locs ls hI hl hf
    rw [f_Mod_parse_92] at hf
    refine lv_aload_n hx hb d_Mod_parse_92 rfl (lv_at hl 0 rfl) ?_
    obtain ⟨x1, ex1, hf⟩ := z_bs hf
    refine z_getF X hI (k := 48) (ci := 12) (gI_s ex1) i_Mod rfl (by decide) wf_Mod_179 d_Mod_parse_93 ?_
    refine lv_if_ne (tgt := 228) hx hb d_Mod_parse_96 (by decide) (fun c2 => ?_) (fun c2 => ?_)
    · rw [if_neg c2] at hf
      exact s_Mod_parse_228 X  v0 h _ _ _ hI (lv_sub hl [0] rfl) hf
    · rw [if_pos c2] at hf
      refine lv_aload_n hx hb d_Mod_parse_99 rfl (lv_at hl 0 rfl) ?_
      obtain ⟨x3, ex3, hf⟩ := z_bs hf
      refine z_getF X hI (k := 41) (ci := 12) (gI_s ex3) i_Mod rfl (by decide) wf_Mod_176 d_Mod_parse_100 ?_
      refine lv_aload_n hx hb d_Mod_parse_103 rfl (lv_at hl 0 rfl) ?_
      obtain ⟨x4, ex4, hf⟩ := z_bs hf
      refine z_getF X hI (k := 3) (ci := 12) (gI_s ex4) i_Mod rfl (by decide) wf_Mod_166 d_Mod_parse_104 ?_
      refine lv_icmp_ge (tgt := 228) hx hb d_Mod_parse_107 (by decide) (fun c5 => ?_) (fun c5 => ?_)
      · rw [if_pos c5] at hf
        exact s_Mod_parse_228 X  v0 h _ _ _ hI (lv_sub hl [0] rfl) hf
      · rw [if_neg c5] at hf
        refine lv_aload_n hx hb d_Mod_parse_110 rfl (lv_at hl 0 rfl) ?_
        obtain ⟨x6, ex6, hf⟩ := z_bs hf
        refine z_getF X hI (k := 0) (ci := 12) (gR_s ex6) i_Mod rfl (by decide) wf_Mod_7 d_Mod_parse_111 ?_
        refine lv_aload_n hx hb d_Mod_parse_114 rfl (lv_at hl 0 rfl) ?_
        obtain ⟨x7, ex7, hf⟩ := z_bs hf
        refine z_getF X hI (k := 41) (ci := 12) (gI_s ex7) i_Mod rfl (by decide) wf_Mod_176 d_Mod_parse_115 ?_
        obtain ⟨x8, ex8, hf⟩ := z_bs hf
        refine z_iald X hI ex8 d_Mod_parse_118 ?_
        refine lv_istore_n (lv' := [(1, .int x8), (0, .ref v0)]) hx hb d_Mod_parse_119 rfl hl (by decide) rfl (fun ls hl => ?_)
        refine lv_iload_n hx hb d_Mod_parse_120 rfl (lv_at hl 0 rfl) ?_
        refine lv_bipush (v := 32) hx hb d_Mod_parse_121 (by decide) ?_
        refine lv_icmp_eq (tgt := 138) hx hb d_Mod_parse_123 (by decide) (fun c9 => ?_) (fun c9 => ?_)
        · rw [if_pos c9] at hf
          exact s_Mod_parse_138 X ih v0 h _ _ _ hI (lv_sub hl [1] rfl) hf
        · rw [if_neg c9] at hf
          refine lv_iload_n hx hb d_Mod_parse_126 rfl (lv_at hl 0 rfl) ?_
          refine lv_bipush (v := 10) hx hb d_Mod_parse_127 (by decide) ?_
          refine lv_icmp_eq (tgt := 138) hx hb d_Mod_parse_129 (by decide) (fun c10 => ?_) (fun c10 => ?_)
          · rw [if_pos c10] at hf
            exact s_Mod_parse_138 X ih v0 h _ _ _ hI (lv_sub hl [1] rfl) hf
          · rw [if_neg c10] at hf
            refine lv_iload_n hx hb d_Mod_parse_132 rfl (lv_at hl 0 rfl) ?_
            refine lv_bipush (v := 59) hx hb d_Mod_parse_133 (by decide) ?_
            refine lv_icmp_ne (tgt := 151) hx hb d_Mod_parse_135 (by decide) (fun c11 => ?_) (fun c11 => ?_)
            · rw [if_neg c11] at hf
              refine lv_iload_n hx hb d_Mod_parse_151 rfl (lv_at hl 0 rfl) ?_
              refine lv_bipush (v := 125) hx hb d_Mod_parse_152 (by decide) ?_
              refine lv_icmp_ne (tgt := 221) hx hb d_Mod_parse_154 (by decide) (fun c12 => ?_) (fun c12 => ?_)
              · rw [if_neg c12] at hf
                refine lv_aload_n hx hb d_Mod_parse_221 rfl (lv_at hl 1 rfl) ?_
                obtain ⟨u13, eu13, hf⟩ := z_bs hf
                obtain ⟨r14, er14, hf⟩ := z_bs hf
                refine z_callV (As := []) (rest := []) (r := none) (h' := r14) X hI eu13 (s_Mod_command er14) rfl rfl wm_Mod_287 yi_Mod_command rfl hl.1 rfl (Nat.le_of_ble_eq_true rfl) (by decide) (by decide) d_Mod_parse_222 (fun H locs hI => ?_)
                refine W.eq (g2 := F0 m 225 ls []) rfl ?_
                refine lv_goto (tgt := 92) hx hb d_Mod_parse_225 (by decide) ?_
                exact ih v0 r14 _ _ _ hI (lv_sub hl [1] rfl) hf
              · rw [if_pos c12] at hf
                refine lv_aload_n hx hb d_Mod_parse_157 rfl (lv_at hl 1 rfl) ?_
                obtain ⟨x15, ex15, hf⟩ := z_bs hf
                refine z_getF X hI (k := 43) (ci := 12) (gI_s ex15) i_Mod rfl (by decide) wf_Mod_261 d_Mod_parse_158 ?_
                refine lv_if_ne (tgt := 175) hx hb d_Mod_parse_161 (by decide) (fun c16 => ?_) (fun c16 => ?_)
                · rw [if_neg c16] at hf
                  refine lv_aload_n hx hb d_Mod_parse_175 rfl (lv_at hl 1 rfl) ?_
                  refine lv_dup hx hb d_Mod_parse_176 rfl ?_
                  obtain ⟨x17, ex17, hf⟩ := z_bs hf
                  refine z_getF X hI (k := 43) (ci := 12) (gI_s ex17) i_Mod rfl (by decide) wf_Mod_261 d_Mod_parse_177 ?_
                  refine lv_iconst (v := 1) hx hb d_Mod_parse_180 (by decide) ?_
                  refine lv_isub hx hb d_Mod_parse_181 ?_
                  obtain ⟨h18, eh18, hf⟩ := z_bs hf
                  refine z_putF X hI (k := 43) (ci := 12) (ty0 := t_Mod) eh18 i_Mod t_Mod_ok n_Mod rfl (by decide) wf_Mod_261 rfl rfl rfl d_Mod_parse_182 (fun H locs hI => ?_)
                  refine lv_aload_n hx hb d_Mod_parse_185 rfl (lv_at hl 1 rfl) ?_
                  obtain ⟨x19, ex19, hf⟩ := z_bs hf
                  refine z_getF X hI (k := 18) (ci := 12) (gR_s ex19) i_Mod rfl (by decide) wf_Mod_50 d_Mod_parse_186 ?_
                  refine lv_aload_n hx hb d_Mod_parse_189 rfl (lv_at hl 1 rfl) ?_
                  obtain ⟨x20, ex20, hf⟩ := z_bs hf
                  refine z_getF X hI (k := 40) (ci := 12) (gR_s ex20) i_Mod rfl (by decide) wf_Mod_118 d_Mod_parse_190 ?_
                  refine lv_aload_n hx hb d_Mod_parse_193 rfl (lv_at hl 1 rfl) ?_
                  obtain ⟨x21, ex21, hf⟩ := z_bs hf
                  refine z_getF X hI (k := 43) (ci := 12) (gI_s ex21) i_Mod rfl (by decide) wf_Mod_261 d_Mod_parse_194 ?_
                  obtain ⟨x22, ex22, hf⟩ := z_bs hf
                  refine z_iald X hI ex22 d_Mod_parse_197 ?_
                  refine lv_aload_n hx hb d_Mod_parse_198 rfl (lv_at hl 1 rfl) ?_
                  obtain ⟨x23, ex23, hf⟩ := z_bs hf
                  refine z_getF X hI (k := 24) (ci := 12) (gR_s ex23) i_Mod rfl (by decide) wf_Mod_69 d_Mod_parse_199 ?_
                  refine lv_aload_n hx hb d_Mod_parse_202 rfl (lv_at hl 1 rfl) ?_
                  obtain ⟨x24, ex24, hf⟩ := z_bs hf
                  refine z_getF X hI (k := 42) (ci := 12) (gI_s ex24) i_Mod rfl (by decide) wf_Mod_191 d_Mod_parse_203 ?_
                  obtain ⟨x25, ex25, hf⟩ := z_bs hf
                  refine z_iald X hI ex25 d_Mod_parse_206 ?_
                  obtain ⟨h26, eh26, hf⟩ := z_bs hf
                  refine z_iast X hI eh26 d_Mod_parse_207 (fun H locs hI => ?_)
                  exact s_Mod_parse_208 X ih v0 h26 _ _ _ hI (lv_sub hl [1] rfl) hf
                · rw [if_pos c16] at hf
                  refine lv_aload_n hx hb d_Mod_parse_164 rfl (lv_at hl 1 rfl) ?_
                  refine lv_aload_n hx hb d_Mod_parse_165 rfl (lv_at hl 1 rfl) ?_
                  obtain ⟨x27, ex27, hf⟩ := z_bs hf
                  refine z_getF X hI (k := 41) (ci := 12) (gI_s ex27) i_Mod rfl (by decide) wf_Mod_176 d_Mod_parse_166 ?_
                  obtain ⟨u28, eu28, hf⟩ := z_bs hf
                  obtain ⟨r29, er29, hf⟩ := z_bs hf
                  refine z_callV (As := [.int x27]) (rest := []) (r := none) (h' := r29) X hI eu28 (s_Mod_wrong er29) rfl rfl wm_Mod_187 yi_Mod_wrong rfl hl.1 rfl (Nat.le_of_ble_eq_true rfl) (by decide) (by decide) d_Mod_parse_169 (fun H locs hI => ?_)
                  refine W.eq (g2 := F0 m 172 ls []) rfl ?_
                  refine lv_goto (tgt := 208) hx hb d_Mod_parse_172 (by decide) ?_
                  exact s_Mod_parse_208 X ih v0 r29 _ _ _ hI (lv_sub hl [1] rfl) hf
            · rw [if_pos c11] at hf
              exact s_Mod_parse_138 X ih v0 h _ _ _ hI (lv_sub hl [1] rfl) hf
def f_Mod_parse_52 (N : Nat)  : Nat → Nat → Int32 → z_H → Option (Int32 × z_H)
  | 0, _, _, _ => none
  | n + 1, v0, v1, h =>
    if 26 ≤ v1 then
    (z_b (sF h v0 12 41 (.int 0)) fun h2 =>
    z_b (sF h2 v0 12 43 (.int 0)) fun h3 =>
    z_b (sF h3 v0 12 48 (.int 0)) fun h4 =>
    z_b (sF h4 v0 12 5 (.int (-2))) fun h5 =>
    f_Mod_parse_92 N N v0 h5)
    else
    (z_b (gR h v0 12 39) fun x6 =>
    z_b (uI h x6 0 v1 (-1)) fun h7 =>
    z_b (some (v1 + 1)) fun x8 =>
    (f_Mod_parse_52 N  n) v0 x8 h7)
set_option maxRecDepth 20000 in
set_option maxHeartbeats 2000000 in
theorem s_Mod_parse_52 (X : z_X p s m args meth c prog_14_method_36_code 2 (some .int) Ts "StreamForgeModel" D dA B) {N : Nat} {r : Int32} {h' : z_H}   : ∀ n : Nat, ∀ (v0 : Nat) (v1 : Int32) (h : z_H) (H : Heap) (locs : List Loc) (ls : Array Slot), z_I D dA B h s.heap H locs → lv_has ls 2 [(0, .ref v0), (1, .int v1)] → f_Mod_parse_52 N  n v0 v1 h = some (r, h') → W p l e (z_rm 6 140) s m args below meth c H locs 0 0 (MQ below (z_Q D dA B (some (.int r)) h') args s 0 0 (fun q => B ≤ q)) (F0 m 52 ls []) := by
  have hx := z_hx X
  have hb := z_hb X
  intro n
  induction n with
  | zero => intro v0 v1 h H locs ls hI hl hf; rw [f_Mod_parse_52] at hf; cases hf
  | succ n ih =>
    intro v0 v1 h H locs ls hI hl hf
    rw [f_Mod_parse_52] at hf
    refine lv_iload_n hx hb d_Mod_parse_52 rfl (lv_at hl 1 rfl) ?_
    refine lv_bipush (v := 26) hx hb d_Mod_parse_53 (by decide) ?_
    refine lv_icmp_ge (tgt := 71) hx hb d_Mod_parse_55 (by decide) (fun c1 => ?_) (fun c1 => ?_)
    · rw [if_pos c1] at hf
      refine lv_aload_n hx hb d_Mod_parse_71 rfl (lv_at hl 0 rfl) ?_
      refine lv_iconst (v := 0) hx hb d_Mod_parse_72 (by decide) ?_
      obtain ⟨h2, eh2, hf⟩ := z_bs hf
      refine z_putF X hI (k := 41) (ci := 12) (ty0 := t_Mod) eh2 i_Mod t_Mod_ok n_Mod rfl (by decide) wf_Mod_176 rfl rfl rfl d_Mod_parse_73 (fun H locs hI => ?_)
      refine lv_aload_n hx hb d_Mod_parse_76 rfl (lv_at hl 0 rfl) ?_
      refine lv_iconst (v := 0) hx hb d_Mod_parse_77 (by decide) ?_
      obtain ⟨h3, eh3, hf⟩ := z_bs hf
      refine z_putF X hI (k := 43) (ci := 12) (ty0 := t_Mod) eh3 i_Mod t_Mod_ok n_Mod rfl (by decide) wf_Mod_261 rfl rfl rfl d_Mod_parse_78 (fun H locs hI => ?_)
      refine lv_aload_n hx hb d_Mod_parse_81 rfl (lv_at hl 0 rfl) ?_
      refine lv_iconst (v := 0) hx hb d_Mod_parse_82 (by decide) ?_
      obtain ⟨h4, eh4, hf⟩ := z_bs hf
      refine z_putF X hI (k := 48) (ci := 12) (ty0 := t_Mod) eh4 i_Mod t_Mod_ok n_Mod rfl (by decide) wf_Mod_179 rfl rfl rfl d_Mod_parse_83 (fun H locs hI => ?_)
      refine lv_aload_n hx hb d_Mod_parse_86 rfl (lv_at hl 0 rfl) ?_
      refine lv_bipush (v := (-2)) hx hb d_Mod_parse_87 (by decide) ?_
      obtain ⟨h5, eh5, hf⟩ := z_bs hf
      refine z_putF X hI (k := 5) (ci := 12) (ty0 := t_Mod) eh5 i_Mod t_Mod_ok n_Mod rfl (by decide) wf_Mod_19 rfl rfl rfl d_Mod_parse_89 (fun H locs hI => ?_)
      exact s_Mod_parse_92 X  N v0 h5 _ _ _ hI (lv_sub hl [0] rfl) hf
    · rw [if_neg c1] at hf
      refine lv_aload_n hx hb d_Mod_parse_58 rfl (lv_at hl 0 rfl) ?_
      obtain ⟨x6, ex6, hf⟩ := z_bs hf
      refine z_getF X hI (k := 39) (ci := 12) (gR_s ex6) i_Mod rfl (by decide) wf_Mod_115 d_Mod_parse_59 ?_
      refine lv_iload_n hx hb d_Mod_parse_62 rfl (lv_at hl 1 rfl) ?_
      refine lv_iconst (v := (-1)) hx hb d_Mod_parse_63 (by decide) ?_
      obtain ⟨h7, eh7, hf⟩ := z_bs hf
      refine z_iast X hI eh7 d_Mod_parse_64 (fun H locs hI => ?_)
      obtain ⟨x8, ex8, hf⟩ := z_bs hf
      refine lv_iinc (v := x8) (lv' := [(1, .int x8), (0, .ref v0)]) hx hb d_Mod_parse_65 hl (k := 1) rfl (by rw [← Option.some.inj ex8]; rfl) (by decide) rfl (fun ls hl => ?_)
      refine lv_goto (tgt := 52) hx hb d_Mod_parse_68 (by decide) ?_
      exact ih v0 x8 h7 _ _ _ hI (lv_sub hl [1, 0] rfl) hf
def f_Mod_parse (N : Nat) (v0 : Nat) (h : z_H) : Option (Int32 × z_H) :=
  z_b (gI h v0 12 7) fun x1 =>
  z_b (sF h v0 12 42 (.int (1 - x1))) fun h2 =>
  z_b (gR h2 v0 12 24) fun x3 =>
  z_b (gI h2 v0 12 42) fun x4 =>
  z_b (uI h2 x3 0 x4 0) fun h5 =>
  z_b (gR h5 v0 12 25) fun x6 =>
  z_b (gI h5 v0 12 42) fun x7 =>
  z_b (uI h5 x6 0 x7 0) fun h8 =>
  z_b (gR h8 v0 12 26) fun x9 =>
  z_b (gI h8 v0 12 42) fun x10 =>
  z_b (uI h8 x9 0 x10 0) fun h11 =>
  z_b (gR h11 v0 12 27) fun x12 =>
  z_b (gI h11 v0 12 42) fun x13 =>
  z_b (uI h11 x12 0 x13 0) fun h14 =>
  f_Mod_parse_52 N N v0 0 h14
set_option maxRecDepth 20000 in
set_option maxHeartbeats 2000000 in
theorem s_Mod_parse {l : Launch} {D : va_G} {dA : Nat → ClassId} {B N : Nat} {v0 : Nat} {h h' : z_H} {r : Int32} (hf : f_Mod_parse N v0 h = some (r, h')) : z_Met l y_Mod_parse prog_14_method_36_code 2 (some .int) 6 140 D dA B [.ref v0] h (some (.int r)) h' := by
  refine z_of (by decide) (Nat.le_of_ble_eq_true rfl) (fun p e s m below meth c ls X hI hl => ?_)
  have hx := z_hx X
  have hb := z_hb X
  have hl : lv_has ls 2 [(0, .ref v0)] := hl
  unfold f_Mod_parse at hf
  obtain ⟨locs, hlo⟩ : ∃ z : List Loc, z = [] := ⟨_, rfl⟩
  rw [← hlo] at hI ⊢
  refine lv_aload_n hx hb d_Mod_parse_0 rfl (lv_at hl 0 rfl) ?_
  refine lv_iconst (v := 1) hx hb d_Mod_parse_1 (by decide) ?_
  refine lv_aload_n hx hb d_Mod_parse_2 rfl (lv_at hl 0 rfl) ?_
  obtain ⟨x1, ex1, hf⟩ := z_bs hf
  refine z_getF X hI (k := 7) (ci := 12) (gI_s ex1) i_Mod rfl (by decide) wf_Mod_284 d_Mod_parse_3 ?_
  refine lv_isub hx hb d_Mod_parse_6 ?_
  obtain ⟨h2, eh2, hf⟩ := z_bs hf
  refine z_putF X hI (k := 42) (ci := 12) (ty0 := t_Mod) eh2 i_Mod t_Mod_ok n_Mod rfl (by decide) wf_Mod_191 rfl rfl rfl d_Mod_parse_7 (fun H locs hI => ?_)
  refine lv_aload_n hx hb d_Mod_parse_10 rfl (lv_at hl 0 rfl) ?_
  obtain ⟨x3, ex3, hf⟩ := z_bs hf
  refine z_getF X hI (k := 24) (ci := 12) (gR_s ex3) i_Mod rfl (by decide) wf_Mod_69 d_Mod_parse_11 ?_
  refine lv_aload_n hx hb d_Mod_parse_14 rfl (lv_at hl 0 rfl) ?_
  obtain ⟨x4, ex4, hf⟩ := z_bs hf
  refine z_getF X hI (k := 42) (ci := 12) (gI_s ex4) i_Mod rfl (by decide) wf_Mod_191 d_Mod_parse_15 ?_
  refine lv_iconst (v := 0) hx hb d_Mod_parse_18 (by decide) ?_
  obtain ⟨h5, eh5, hf⟩ := z_bs hf
  refine z_iast X hI eh5 d_Mod_parse_19 (fun H locs hI => ?_)
  refine lv_aload_n hx hb d_Mod_parse_20 rfl (lv_at hl 0 rfl) ?_
  obtain ⟨x6, ex6, hf⟩ := z_bs hf
  refine z_getF X hI (k := 25) (ci := 12) (gR_s ex6) i_Mod rfl (by decide) wf_Mod_72 d_Mod_parse_21 ?_
  refine lv_aload_n hx hb d_Mod_parse_24 rfl (lv_at hl 0 rfl) ?_
  obtain ⟨x7, ex7, hf⟩ := z_bs hf
  refine z_getF X hI (k := 42) (ci := 12) (gI_s ex7) i_Mod rfl (by decide) wf_Mod_191 d_Mod_parse_25 ?_
  refine lv_iconst (v := 0) hx hb d_Mod_parse_28 (by decide) ?_
  obtain ⟨h8, eh8, hf⟩ := z_bs hf
  refine z_iast X hI eh8 d_Mod_parse_29 (fun H locs hI => ?_)
  refine lv_aload_n hx hb d_Mod_parse_30 rfl (lv_at hl 0 rfl) ?_
  obtain ⟨x9, ex9, hf⟩ := z_bs hf
  refine z_getF X hI (k := 26) (ci := 12) (gR_s ex9) i_Mod rfl (by decide) wf_Mod_75 d_Mod_parse_31 ?_
  refine lv_aload_n hx hb d_Mod_parse_34 rfl (lv_at hl 0 rfl) ?_
  obtain ⟨x10, ex10, hf⟩ := z_bs hf
  refine z_getF X hI (k := 42) (ci := 12) (gI_s ex10) i_Mod rfl (by decide) wf_Mod_191 d_Mod_parse_35 ?_
  refine lv_iconst (v := 0) hx hb d_Mod_parse_38 (by decide) ?_
  obtain ⟨h11, eh11, hf⟩ := z_bs hf
  refine z_iast X hI eh11 d_Mod_parse_39 (fun H locs hI => ?_)
  refine lv_aload_n hx hb d_Mod_parse_40 rfl (lv_at hl 0 rfl) ?_
  obtain ⟨x12, ex12, hf⟩ := z_bs hf
  refine z_getF X hI (k := 27) (ci := 12) (gR_s ex12) i_Mod rfl (by decide) wf_Mod_78 d_Mod_parse_41 ?_
  refine lv_aload_n hx hb d_Mod_parse_44 rfl (lv_at hl 0 rfl) ?_
  obtain ⟨x13, ex13, hf⟩ := z_bs hf
  refine z_getF X hI (k := 42) (ci := 12) (gI_s ex13) i_Mod rfl (by decide) wf_Mod_191 d_Mod_parse_45 ?_
  refine lv_iconst (v := 0) hx hb d_Mod_parse_48 (by decide) ?_
  obtain ⟨h14, eh14, hf⟩ := z_bs hf
  refine z_iast X hI eh14 d_Mod_parse_49 (fun H locs hI => ?_)
  refine lv_iconst (v := 0) hx hb d_Mod_parse_50 (by decide) ?_
  refine lv_istore_n (lv' := [(1, .int 0), (0, .ref v0)]) hx hb d_Mod_parse_51 rfl hl (by decide) rfl (fun ls hl => ?_)
  exact s_Mod_parse_52 X  N v0 0 h14 _ _ _ hI (lv_sub hl [1, 0] rfl) hf
def f_Mod_where (N : Nat) (v0 : Nat) (h : z_H) : Option (Int32 × z_H) :=
  z_b (sF h v0 12 6 (.int 0)) fun h1 =>
  z_b (gI h1 v0 12 5) fun x2 =>
  some (x2, h1)
set_option maxRecDepth 20000 in
set_option maxHeartbeats 2000000 in
theorem s_Mod_where {l : Launch} {D : va_G} {dA : Nat → ClassId} {B N : Nat} {v0 : Nat} {h h' : z_H} {r : Int32} (hf : f_Mod_where N v0 h = some (r, h')) : z_Met l y_Mod_where prog_14_method_37_code 1 (some .int) 0 0 D dA B [.ref v0] h (some (.int r)) h' := by
  refine z_of (by decide) (Nat.le_of_ble_eq_true rfl) (fun p e s m below meth c ls X hI hl => ?_)
  have hx := z_hx X
  have hb := z_hb X
  have hl : lv_has ls 1 [(0, .ref v0)] := hl
  unfold f_Mod_where at hf
  obtain ⟨locs, hlo⟩ : ∃ z : List Loc, z = [] := ⟨_, rfl⟩
  rw [← hlo] at hI ⊢
  refine lv_aload_n hx hb d_Mod_where_0 rfl (lv_at hl 0 rfl) ?_
  refine lv_iconst (v := 0) hx hb d_Mod_where_1 (by decide) ?_
  obtain ⟨h1, eh1, hf⟩ := z_bs hf
  refine z_putF X hI (k := 6) (ci := 12) (ty0 := t_Mod) eh1 i_Mod t_Mod_ok n_Mod rfl (by decide) wf_Mod_151 rfl rfl rfl d_Mod_where_2 (fun H locs hI => ?_)
  refine lv_aload_n hx hb d_Mod_where_5 rfl (lv_at hl 0 rfl) ?_
  obtain ⟨x2, ex2, hf⟩ := z_bs hf
  refine z_getF X hI (k := 5) (ci := 12) (gI_s ex2) i_Mod rfl (by decide) wf_Mod_19 d_Mod_where_6 ?_
  cases hf
  exact z_iret X hI d_Mod_where_9
def f_Mod_fits_65 (N : Nat)  (s0 : Int64) (h : z_H) : Option (Int32 × z_H) :=
  if (lg_cmp (s0 &&& 1) 1) = 0 then
  (some (1, h))
  else
  (some (0, h))
set_option maxRecDepth 20000 in
set_option maxHeartbeats 2000000 in
theorem s_Mod_fits_65 (X : z_X p s m args meth c prog_14_method_38_code 3 (some .boolean) Ts "StreamForgeModel" D dA B) {N : Nat} {r : Int32} {h' : z_H}   : ∀ (s0 : Int64) (h : z_H) (H : Heap) (locs : List Loc) (ls : Array Slot), z_I D dA B h s.heap H locs → lv_has ls 3 [] → f_Mod_fits_65 N  s0 h = some (r, h') → W p l e (z_rm 0 0) s m args below meth c H locs 0 0 (MQ below (z_Q D dA B (some (.int r)) h') args s 0 0 (fun q => B ≤ q)) (F0 m 65 ls [.long s0]) := by
  have hx := z_hx X
  have hb := z_hb X
  intro s0 h H locs ls hI hl hf
  unfold f_Mod_fits_65 at hf
  refine lv_lconst (v := 1) hx hb d_Mod_fits_65 (by decide) ?_
  refine lv_land hx hb d_Mod_fits_66 ?_
  refine lv_lconst (v := 1) hx hb d_Mod_fits_67 (by decide) ?_
  refine W.lcmp hx hb d_Mod_fits_68 ?_
  refine lv_if_ne (tgt := 76) hx hb d_Mod_fits_69 (by decide) (fun c1 => ?_) (fun c1 => ?_)
  · rw [if_neg c1] at hf
    refine lv_iconst (v := 0) hx hb d_Mod_fits_76 (by decide) ?_
    cases hf
    exact z_zret X hI (Or.inl rfl) d_Mod_fits_77
  · rw [if_pos c1] at hf
    refine lv_iconst (v := 1) hx hb d_Mod_fits_72 (by decide) ?_
    refine lv_goto (tgt := 77) hx hb d_Mod_fits_73 (by decide) ?_
    cases hf
    exact z_zret X hI (Or.inr rfl) d_Mod_fits_77
def f_Mod_fits (N : Nat) (v0 : Nat) (v1 : Int32) (v2 : Int32) (h : z_H) : Option (Int32 × z_H) :=
  z_b (gR h v0 12 31) fun x1 =>
  z_b (aI h x1 0 v1) fun x2 =>
  if x2 = 1 then
  (some (1, h))
  else
  (z_b (gR h v0 12 31) fun x4 =>
  z_b (aI h x4 0 v1) fun x5 =>
  if x5 = 0 then
  (z_b (gR h v0 12 32) fun x12 =>
  z_b (aI h x12 0 v1) fun x13 =>
  if x13 = v2 then
  (some (1, h))
  else
  (some (0, h)))
  else
  (if 64 ≤ v2 then
  (z_b (gR h v0 12 38) fun x8 =>
  z_b (aL h x8 v1) fun x9 =>
  f_Mod_fits_65 N (x9 >>> (Int32.toInt64 (v2 - 64) &&& 63)) h)
  else
  (z_b (gR h v0 12 37) fun x10 =>
  z_b (aL h x10 v1) fun x11 =>
  f_Mod_fits_65 N (x11 >>> (Int32.toInt64 v2 &&& 63)) h)))
set_option maxRecDepth 20000 in
set_option maxHeartbeats 2000000 in
theorem s_Mod_fits {l : Launch} {D : va_G} {dA : Nat → ClassId} {B N : Nat} {v0 : Nat} {v1 : Int32} {v2 : Int32} {h h' : z_H} {r : Int32} (hf : f_Mod_fits N v0 v1 v2 h = some (r, h')) : z_Met l y_Mod_fits prog_14_method_38_code 3 (some .boolean) 0 0 D dA B [.ref v0, .int v1, .int v2] h (some (.int r)) h' := by
  refine z_of (by decide) (Nat.le_of_ble_eq_true rfl) (fun p e s m below meth c ls X hI hl => ?_)
  have hx := z_hx X
  have hb := z_hb X
  have hl : lv_has ls 3 [(0, .ref v0), (1, .int v1), (2, .int v2)] := hl
  unfold f_Mod_fits at hf
  obtain ⟨locs, hlo⟩ : ∃ z : List Loc, z = [] := ⟨_, rfl⟩
  rw [← hlo] at hI ⊢
  refine lv_aload_n hx hb d_Mod_fits_0 rfl (lv_at hl 0 rfl) ?_
  obtain ⟨x1, ex1, hf⟩ := z_bs hf
  refine z_getF X hI (k := 31) (ci := 12) (gR_s ex1) i_Mod rfl (by decide) wf_Mod_90 d_Mod_fits_1 ?_
  refine lv_iload_n hx hb d_Mod_fits_4 rfl (lv_at hl 1 rfl) ?_
  obtain ⟨x2, ex2, hf⟩ := z_bs hf
  refine z_iald X hI ex2 d_Mod_fits_5 ?_
  refine lv_iconst (v := 1) hx hb d_Mod_fits_6 (by decide) ?_
  refine lv_icmp_ne (tgt := 12) hx hb d_Mod_fits_7 (by decide) (fun c3 => ?_) (fun c3 => ?_)
  · rw [if_neg c3] at hf
    refine lv_aload_n hx hb d_Mod_fits_12 rfl (lv_at hl 0 rfl) ?_
    obtain ⟨x4, ex4, hf⟩ := z_bs hf
    refine z_getF X hI (k := 31) (ci := 12) (gR_s ex4) i_Mod rfl (by decide) wf_Mod_90 d_Mod_fits_13 ?_
    refine lv_iload_n hx hb d_Mod_fits_16 rfl (lv_at hl 1 rfl) ?_
    obtain ⟨x5, ex5, hf⟩ := z_bs hf
    refine z_iald X hI ex5 d_Mod_fits_17 ?_
    refine lv_if_ne (tgt := 37) hx hb d_Mod_fits_18 (by decide) (fun c6 => ?_) (fun c6 => ?_)
    · rw [if_neg c6] at hf
      refine lv_iload_n hx hb d_Mod_fits_37 rfl (lv_at hl 2 rfl) ?_
      refine lv_bipush (v := 64) hx hb d_Mod_fits_38 (by decide) ?_
      refine lv_icmp_ge (tgt := 54) hx hb d_Mod_fits_40 (by decide) (fun c7 => ?_) (fun c7 => ?_)
      · rw [if_pos c7] at hf
        refine lv_aload_n hx hb d_Mod_fits_54 rfl (lv_at hl 0 rfl) ?_
        obtain ⟨x8, ex8, hf⟩ := z_bs hf
        refine z_getF X hI (k := 38) (ci := 12) (gR_s ex8) i_Mod rfl (by decide) wf_Mod_112 d_Mod_fits_55 ?_
        refine lv_iload_n hx hb d_Mod_fits_58 rfl (lv_at hl 1 rfl) ?_
        obtain ⟨x9, ex9, hf⟩ := z_bs hf
        refine z_lald X hI ex9 d_Mod_fits_59 ?_
        refine lv_iload_n hx hb d_Mod_fits_60 rfl (lv_at hl 2 rfl) ?_
        refine lv_bipush (v := 64) hx hb d_Mod_fits_61 (by decide) ?_
        refine lv_isub hx hb d_Mod_fits_63 ?_
        refine lv_lshr hx hb d_Mod_fits_64 rfl ?_
        exact s_Mod_fits_65 X  (x9 >>> (Int32.toInt64 (v2 - 64) &&& 63)) h _ _ _ hI (lv_sub hl [] rfl) hf
      · rw [if_neg c7] at hf
        refine lv_aload_n hx hb d_Mod_fits_43 rfl (lv_at hl 0 rfl) ?_
        obtain ⟨x10, ex10, hf⟩ := z_bs hf
        refine z_getF X hI (k := 37) (ci := 12) (gR_s ex10) i_Mod rfl (by decide) wf_Mod_108 d_Mod_fits_44 ?_
        refine lv_iload_n hx hb d_Mod_fits_47 rfl (lv_at hl 1 rfl) ?_
        obtain ⟨x11, ex11, hf⟩ := z_bs hf
        refine z_lald X hI ex11 d_Mod_fits_48 ?_
        refine lv_iload_n hx hb d_Mod_fits_49 rfl (lv_at hl 2 rfl) ?_
        refine lv_lshr hx hb d_Mod_fits_50 rfl ?_
        refine lv_goto (tgt := 65) hx hb d_Mod_fits_51 (by decide) ?_
        exact s_Mod_fits_65 X  (x11 >>> (Int32.toInt64 v2 &&& 63)) h _ _ _ hI (lv_sub hl [] rfl) hf
    · rw [if_pos c6] at hf
      refine lv_aload_n hx hb d_Mod_fits_21 rfl (lv_at hl 0 rfl) ?_
      obtain ⟨x12, ex12, hf⟩ := z_bs hf
      refine z_getF X hI (k := 32) (ci := 12) (gR_s ex12) i_Mod rfl (by decide) wf_Mod_93 d_Mod_fits_22 ?_
      refine lv_iload_n hx hb d_Mod_fits_25 rfl (lv_at hl 1 rfl) ?_
      obtain ⟨x13, ex13, hf⟩ := z_bs hf
      refine z_iald X hI ex13 d_Mod_fits_26 ?_
      refine lv_iload_n hx hb d_Mod_fits_27 rfl (lv_at hl 2 rfl) ?_
      refine lv_icmp_ne (tgt := 35) hx hb d_Mod_fits_28 (by decide) (fun c14 => ?_) (fun c14 => ?_)
      · rw [if_neg c14] at hf
        refine lv_iconst (v := 0) hx hb d_Mod_fits_35 (by decide) ?_
        cases hf
        exact z_zret X hI (Or.inl rfl) d_Mod_fits_36
      · rw [if_pos c14] at hf
        refine lv_iconst (v := 1) hx hb d_Mod_fits_31 (by decide) ?_
        refine lv_goto (tgt := 36) hx hb d_Mod_fits_32 (by decide) ?_
        cases hf
        exact z_zret X hI (Or.inr rfl) d_Mod_fits_36
  · rw [if_pos c3] at hf
    refine lv_iconst (v := 1) hx hb d_Mod_fits_10 (by decide) ?_
    cases hf
    exact z_zret X hI (Or.inr rfl) d_Mod_fits_11
def f_Mod_way_162 (N : Nat) (k80 : Nat → Int32 → Int32 → Int32 → Int32 → Int32 → Int32 → z_H → Option (Int32 × z_H)) : Nat → Nat → Int32 → Int32 → Int32 → Int32 → Int32 → Int32 → Int32 → Int32 → z_H → Option (Int32 × z_H)
  | 0, _, _, _, _, _, _, _, _, _, _ => none
  | n + 1, v0, v1, v3, v4, v5, v6, v7, v9, v10, h =>
    z_b (gR h v0 12 53) fun x1 =>
    z_b (aI h x1 0 v9) fun x2 =>
    if x2 ≤ v10 then
    (z_b (gR h v0 12 53) fun x4 =>
    z_b (aI h x4 0 v9) fun x5 =>
    z_b (some (v5 + x5)) fun x6 =>
    z_b (some (v7 + 1)) fun x7 =>
    k80 v0 v1 v3 v4 x6 v6 x7 h)
    else
    (z_b (gI h v0 12 54) fun x8 =>
    if x8 ≤ (v5 + v10) then
    (some ((-1), h))
    else
    (z_b (gR h v0 12 51) fun x10 =>
    z_b (aI h x10 0 (v5 + v10)) fun x11 =>
    z_b (gR h v0 12 51) fun x12 =>
    z_b (gR h v0 12 52) fun x13 =>
    z_b (aI h x13 0 v9) fun x14 =>
    z_b (aI h x12 0 (x14 + v10)) fun x15 =>
    if x11 = x15 then
    (z_b (some (v10 + 1)) fun x17 =>
    (f_Mod_way_162 N k80 n) v0 v1 v3 v4 v5 v6 v7 v9 x17 h)
    else
    (some ((-1), h))))
set_option maxRecDepth 20000 in
set_option maxHeartbeats 2000000 in
theorem s_Mod_way_162 (X : z_X p s m args meth c prog_14_method_39_code 13 (some .int) Ts "StreamForgeModel" D dA B) {N : Nat} {r : Int32} {h' : z_H} {k80 : Nat → Int32 → Int32 → Int32 → Int32 → Int32 → Int32 → z_H → Option (Int32 × z_H)} (hk80 : ∀ (v0 : Nat) (v1 : Int32) (v3 : Int32) (v4 : Int32) (v5 : Int32) (v6 : Int32) (v7 : Int32) (h : z_H) (H : Heap) (locs : List Loc) (ls : Array Slot), z_I D dA B h s.heap H locs → lv_has ls 13 [(0, .ref v0), (1, .int v1), (3, .int v3), (4, .int v4), (5, .int v5), (6, .int v6), (7, .int v7)] → k80 v0 v1 v3 v4 v5 v6 v7 h = some (r, h') → W p l e (z_rm 1 22) s m args below meth c H locs 0 0 (MQ below (z_Q D dA B (some (.int r)) h') args s 0 0 (fun q => B ≤ q)) (F0 m 80 ls [])) : ∀ n : Nat, ∀ (v0 : Nat) (v1 : Int32) (v3 : Int32) (v4 : Int32) (v5 : Int32) (v6 : Int32) (v7 : Int32) (v9 : Int32) (v10 : Int32) (h : z_H) (H : Heap) (locs : List Loc) (ls : Array Slot), z_I D dA B h s.heap H locs → lv_has ls 13 [(0, .ref v0), (1, .int v1), (3, .int v3), (4, .int v4), (5, .int v5), (6, .int v6), (7, .int v7), (9, .int v9), (10, .int v10)] → f_Mod_way_162 N k80 n v0 v1 v3 v4 v5 v6 v7 v9 v10 h = some (r, h') → W p l e (z_rm 1 22) s m args below meth c H locs 0 0 (MQ below (z_Q D dA B (some (.int r)) h') args s 0 0 (fun q => B ≤ q)) (F0 m 162 ls []) := by
  have hx := z_hx X
  have hb := z_hb X
  intro n
  induction n with
  | zero => intro v0 v1 v3 v4 v5 v6 v7 v9 v10 h H locs ls hI hl hf; rw [f_Mod_way_162] at hf; cases hf
  | succ n ih =>
    intro v0 v1 v3 v4 v5 v6 v7 v9 v10 h H locs ls hI hl hf
    rw [f_Mod_way_162] at hf
    refine lv_iload hx hb d_Mod_way_162 (lv_at hl 8 rfl) ?_
    refine lv_aload_n hx hb d_Mod_way_164 rfl (lv_at hl 0 rfl) ?_
    obtain ⟨x1, ex1, hf⟩ := z_bs hf
    refine z_getF X hI (k := 53) (ci := 12) (gR_s ex1) i_Mod rfl (by decide) wf_Mod_127 d_Mod_way_165 ?_
    refine lv_iload hx hb d_Mod_way_168 (lv_at hl 7 rfl) ?_
    obtain ⟨x2, ex2, hf⟩ := z_bs hf
    refine z_iald X hI ex2 d_Mod_way_170 ?_
    refine lv_icmp_ge (tgt := 222) hx hb d_Mod_way_171 (by decide) (fun c3 => ?_) (fun c3 => ?_)
    · rw [if_pos c3] at hf
      refine lv_iload hx hb d_Mod_way_222 (lv_at hl 4 rfl) ?_
      refine lv_aload_n hx hb d_Mod_way_224 rfl (lv_at hl 0 rfl) ?_
      obtain ⟨x4, ex4, hf⟩ := z_bs hf
      refine z_getF X hI (k := 53) (ci := 12) (gR_s ex4) i_Mod rfl (by decide) wf_Mod_127 d_Mod_way_225 ?_
      refine lv_iload hx hb d_Mod_way_228 (lv_at hl 7 rfl) ?_
      obtain ⟨x5, ex5, hf⟩ := z_bs hf
      refine z_iald X hI ex5 d_Mod_way_230 ?_
      refine lv_iadd hx hb d_Mod_way_231 ?_
      obtain ⟨x6, ex6, hf⟩ := z_bs hf
      refine z_topi (Option.some.inj ex6) ?_
      refine lv_istore (lv' := [(5, .int x6), (0, .ref v0), (1, .int v1), (3, .int v3), (4, .int v4), (6, .int v6), (7, .int v7), (9, .int v9), (10, .int v10)]) hx hb d_Mod_way_232 hl (by decide) rfl (fun ls hl => ?_)
      refine lv_goto (tgt := 340) hx hb d_Mod_way_234 (by decide) ?_
      obtain ⟨x7, ex7, hf⟩ := z_bs hf
      refine lv_iinc (v := x7) (lv' := [(7, .int x7), (5, .int x6), (0, .ref v0), (1, .int v1), (3, .int v3), (4, .int v4), (6, .int v6), (9, .int v9), (10, .int v10)]) hx hb d_Mod_way_340 hl (k := 6) rfl (by rw [← Option.some.inj ex7]; rfl) (by decide) rfl (fun ls hl => ?_)
      refine lv_goto (tgt := 80) hx hb d_Mod_way_343 (by decide) ?_
      exact hk80 v0 v1 v3 v4 x6 v6 x7 h _ _ _ hI (lv_sub hl [2, 3, 4, 5, 1, 6, 0] rfl) hf
    · rw [if_neg c3] at hf
      refine lv_iload hx hb d_Mod_way_174 (lv_at hl 4 rfl) ?_
      refine lv_iload hx hb d_Mod_way_176 (lv_at hl 8 rfl) ?_
      refine lv_iadd hx hb d_Mod_way_178 ?_
      refine lv_aload_n hx hb d_Mod_way_179 rfl (lv_at hl 0 rfl) ?_
      obtain ⟨x8, ex8, hf⟩ := z_bs hf
      refine z_getF X hI (k := 54) (ci := 12) (gI_s ex8) i_Mod rfl (by decide) wf_Mod_299 d_Mod_way_180 ?_
      refine lv_icmp_ge (tgt := 214) hx hb d_Mod_way_183 (by decide) (fun c9 => ?_) (fun c9 => ?_)
      · rw [if_pos c9] at hf
        refine lv_iconst (v := (-1)) hx hb d_Mod_way_214 (by decide) ?_
        cases hf
        exact z_iret X hI d_Mod_way_215
      · rw [if_neg c9] at hf
        refine lv_aload_n hx hb d_Mod_way_186 rfl (lv_at hl 0 rfl) ?_
        obtain ⟨x10, ex10, hf⟩ := z_bs hf
        refine z_getF X hI (k := 51) (ci := 12) (gR_s ex10) i_Mod rfl (by decide) wf_Mod_121 d_Mod_way_187 ?_
        refine lv_iload hx hb d_Mod_way_190 (lv_at hl 4 rfl) ?_
        refine lv_iload hx hb d_Mod_way_192 (lv_at hl 8 rfl) ?_
        refine lv_iadd hx hb d_Mod_way_194 ?_
        obtain ⟨x11, ex11, hf⟩ := z_bs hf
        refine z_iald X hI ex11 d_Mod_way_195 ?_
        refine lv_aload_n hx hb d_Mod_way_196 rfl (lv_at hl 0 rfl) ?_
        obtain ⟨x12, ex12, hf⟩ := z_bs hf
        refine z_getF X hI (k := 51) (ci := 12) (gR_s ex12) i_Mod rfl (by decide) wf_Mod_121 d_Mod_way_197 ?_
        refine lv_aload_n hx hb d_Mod_way_200 rfl (lv_at hl 0 rfl) ?_
        obtain ⟨x13, ex13, hf⟩ := z_bs hf
        refine z_getF X hI (k := 52) (ci := 12) (gR_s ex13) i_Mod rfl (by decide) wf_Mod_124 d_Mod_way_201 ?_
        refine lv_iload hx hb d_Mod_way_204 (lv_at hl 7 rfl) ?_
        obtain ⟨x14, ex14, hf⟩ := z_bs hf
        refine z_iald X hI ex14 d_Mod_way_206 ?_
        refine lv_iload hx hb d_Mod_way_207 (lv_at hl 8 rfl) ?_
        refine lv_iadd hx hb d_Mod_way_209 ?_
        obtain ⟨x15, ex15, hf⟩ := z_bs hf
        refine z_iald X hI ex15 d_Mod_way_210 ?_
        refine lv_icmp_eq (tgt := 216) hx hb d_Mod_way_211 (by decide) (fun c16 => ?_) (fun c16 => ?_)
        · rw [if_pos c16] at hf
          obtain ⟨x17, ex17, hf⟩ := z_bs hf
          refine lv_iinc (v := x17) (lv' := [(10, .int x17), (0, .ref v0), (1, .int v1), (3, .int v3), (4, .int v4), (5, .int v5), (6, .int v6), (7, .int v7), (9, .int v9)]) hx hb d_Mod_way_216 hl (k := 8) rfl (by rw [← Option.some.inj ex17]; rfl) (by decide) rfl (fun ls hl => ?_)
          refine lv_goto (tgt := 162) hx hb d_Mod_way_219 (by decide) ?_
          exact ih v0 v1 v3 v4 v5 v6 v7 v9 x17 h _ _ _ hI (lv_sub hl [1, 2, 3, 4, 5, 6, 7, 8, 0] rfl) hf
        · rw [if_neg c16] at hf
          refine lv_iconst (v := (-1)) hx hb d_Mod_way_214 (by decide) ?_
          cases hf
          exact z_iret X hI d_Mod_way_215
def f_Mod_way_306 (N : Nat) (k80 : Nat → Int32 → Int32 → Int32 → Int32 → Int32 → Int32 → z_H → Option (Int32 × z_H)) (k269 : Nat → Int32 → Int32 → Int32 → Int32 → Int32 → Int32 → Int32 → Int32 → z_H → Option (Int32 × z_H)) (v0 : Nat) (v1 : Int32) (v3 : Int32) (v4 : Int32) (v5 : Int32) (v6 : Int32) (v7 : Int32) (v10 : Int32) (v11 : Int32) (s0 : Int32) (h : z_H) : Option (Int32 × z_H) :=
  if s0 = 0 then
  (z_b (gR h v0 12 34) fun x4 =>
  z_b (aI h x4 3 v7) fun x5 =>
  if x5 = 0 then
  (some ((-1), h))
  else
  (z_b (sF h v0 12 55 (.int v6)) fun h7 =>
  some ((-1), h7)))
  else
  (z_b (some (v5 + 1)) fun x2 =>
  z_b (some (v11 + 1)) fun x3 =>
  k269 v0 v1 v3 v4 x2 v6 v7 v10 x3 h)
set_option maxRecDepth 20000 in
set_option maxHeartbeats 2000000 in
theorem s_Mod_way_306 (X : z_X p s m args meth c prog_14_method_39_code 13 (some .int) Ts "StreamForgeModel" D dA B) {N : Nat} {r : Int32} {h' : z_H} {k80 : Nat → Int32 → Int32 → Int32 → Int32 → Int32 → Int32 → z_H → Option (Int32 × z_H)} {k269 : Nat → Int32 → Int32 → Int32 → Int32 → Int32 → Int32 → Int32 → Int32 → z_H → Option (Int32 × z_H)} (hk80 : ∀ (v0 : Nat) (v1 : Int32) (v3 : Int32) (v4 : Int32) (v5 : Int32) (v6 : Int32) (v7 : Int32) (h : z_H) (H : Heap) (locs : List Loc) (ls : Array Slot), z_I D dA B h s.heap H locs → lv_has ls 13 [(0, .ref v0), (1, .int v1), (3, .int v3), (4, .int v4), (5, .int v5), (6, .int v6), (7, .int v7)] → k80 v0 v1 v3 v4 v5 v6 v7 h = some (r, h') → W p l e (z_rm 1 22) s m args below meth c H locs 0 0 (MQ below (z_Q D dA B (some (.int r)) h') args s 0 0 (fun q => B ≤ q)) (F0 m 80 ls [])) (hk269 : ∀ (v0 : Nat) (v1 : Int32) (v3 : Int32) (v4 : Int32) (v5 : Int32) (v6 : Int32) (v7 : Int32) (v10 : Int32) (v11 : Int32) (h : z_H) (H : Heap) (locs : List Loc) (ls : Array Slot), z_I D dA B h s.heap H locs → lv_has ls 13 [(0, .ref v0), (1, .int v1), (3, .int v3), (4, .int v4), (5, .int v5), (6, .int v6), (7, .int v7), (10, .int v10), (11, .int v11)] → k269 v0 v1 v3 v4 v5 v6 v7 v10 v11 h = some (r, h') → W p l e (z_rm 1 22) s m args below meth c H locs 0 0 (MQ below (z_Q D dA B (some (.int r)) h') args s 0 0 (fun q => B ≤ q)) (F0 m 269 ls [])) : ∀ (v0 : Nat) (v1 : Int32) (v3 : Int32) (v4 : Int32) (v5 : Int32) (v6 : Int32) (v7 : Int32) (v10 : Int32) (v11 : Int32) (s0 : Int32) (h : z_H) (H : Heap) (locs : List Loc) (ls : Array Slot), z_I D dA B h s.heap H locs → lv_has ls 13 [(0, .ref v0), (1, .int v1), (3, .int v3), (4, .int v4), (5, .int v5), (6, .int v6), (7, .int v7), (10, .int v10), (11, .int v11)] → f_Mod_way_306 N k80 k269 v0 v1 v3 v4 v5 v6 v7 v10 v11 s0 h = some (r, h') → W p l e (z_rm 1 22) s m args below meth c H locs 0 0 (MQ below (z_Q D dA B (some (.int r)) h') args s 0 0 (fun q => B ≤ q)) (F0 m 306 ls [.int s0]) := by
  have hx := z_hx X
  have hb := z_hb X
  intro v0 v1 v3 v4 v5 v6 v7 v10 v11 s0 h H locs ls hI hl hf
  unfold f_Mod_way_306 at hf
  refine lv_istore (lv' := [(12, .int s0), (0, .ref v0), (1, .int v1), (3, .int v3), (4, .int v4), (5, .int v5), (6, .int v6), (7, .int v7), (10, .int v10), (11, .int v11)]) hx hb d_Mod_way_306 hl (by decide) rfl (fun ls hl => ?_)
  refine lv_iload hx hb d_Mod_way_308 (lv_at hl 0 rfl) ?_
  refine lv_if_ne (tgt := 331) hx hb d_Mod_way_310 (by decide) (fun c1 => ?_) (fun c1 => ?_)
  · rw [if_neg c1] at hf
    obtain ⟨x2, ex2, hf⟩ := z_bs hf
    refine lv_iinc (v := x2) (lv' := [(5, .int x2), (12, .int s0), (0, .ref v0), (1, .int v1), (3, .int v3), (4, .int v4), (6, .int v6), (7, .int v7), (10, .int v10), (11, .int v11)]) hx hb d_Mod_way_331 hl (k := 5) rfl (by rw [← Option.some.inj ex2]; rfl) (by decide) rfl (fun ls hl => ?_)
    obtain ⟨x3, ex3, hf⟩ := z_bs hf
    refine lv_iinc (v := x3) (lv' := [(11, .int x3), (5, .int x2), (12, .int s0), (0, .ref v0), (1, .int v1), (3, .int v3), (4, .int v4), (6, .int v6), (7, .int v7), (10, .int v10)]) hx hb d_Mod_way_334 hl (k := 9) rfl (by rw [← Option.some.inj ex3]; rfl) (by decide) rfl (fun ls hl => ?_)
    refine lv_goto (tgt := 269) hx hb d_Mod_way_337 (by decide) ?_
    exact hk269 v0 v1 v3 v4 x2 v6 v7 v10 x3 h _ _ _ hI (lv_sub hl [3, 4, 5, 6, 1, 7, 8, 9, 0] rfl) hf
  · rw [if_pos c1] at hf
    refine lv_aload_n hx hb d_Mod_way_313 rfl (lv_at hl 1 rfl) ?_
    obtain ⟨x4, ex4, hf⟩ := z_bs hf
    refine z_getF X hI (k := 34) (ci := 12) (gR_s ex4) i_Mod rfl (by decide) wf_Mod_99 d_Mod_way_314 ?_
    refine lv_iload hx hb d_Mod_way_317 (lv_at hl 7 rfl) ?_
    obtain ⟨x5, ex5, hf⟩ := z_bs hf
    refine z_zald X hI ex5 d_Mod_way_319 ?_
    refine lv_if_eq (tgt := 329) hx hb d_Mod_way_320 (by decide) (fun c6 => ?_) (fun c6 => ?_)
    · rw [if_pos c6] at hf
      refine lv_iconst (v := (-1)) hx hb d_Mod_way_329 (by decide) ?_
      cases hf
      exact z_iret X hI d_Mod_way_330
    · rw [if_neg c6] at hf
      refine lv_aload_n hx hb d_Mod_way_323 rfl (lv_at hl 1 rfl) ?_
      refine lv_iload hx hb d_Mod_way_324 (lv_at hl 6 rfl) ?_
      obtain ⟨h7, eh7, hf⟩ := z_bs hf
      refine z_putF X hI (k := 55) (ci := 12) (ty0 := t_Mod) eh7 i_Mod t_Mod_ok n_Mod rfl (by decide) wf_Mod_296 rfl rfl rfl d_Mod_way_326 (fun H locs hI => ?_)
      refine lv_iconst (v := (-1)) hx hb d_Mod_way_329 (by decide) ?_
      cases hf
      exact z_iret X hI d_Mod_way_330
def f_Mod_way_269 (N : Nat) (k80 : Nat → Int32 → Int32 → Int32 → Int32 → Int32 → Int32 → z_H → Option (Int32 × z_H)) : Nat → Nat → Int32 → Int32 → Int32 → Int32 → Int32 → Int32 → Int32 → Int32 → z_H → Option (Int32 × z_H)
  | 0, _, _, _, _, _, _, _, _, _, _ => none
  | n + 1, v0, v1, v3, v4, v5, v6, v7, v10, v11, h =>
    if v10 ≤ v11 then
    (z_b (some (v7 + 1)) fun x2 =>
    k80 v0 v1 v3 v4 v5 v6 x2 h)
    else
    (z_b (gI h v0 12 54) fun x3 =>
    if x3 ≤ v5 then
    (f_Mod_way_306 N k80 (f_Mod_way_269 N k80 n) v0 v1 v3 v4 v5 v6 v7 v10 v11 0 h)
    else
    (z_b (gR h v0 12 51) fun x5 =>
    z_b (aI h x5 0 v5) fun x6 =>
    z_b (gO h v0 12) fun u7 =>
    z_b (f_Mod_fits N v0 v7 x6 h) fun r8 =>
    if (r8.1) = 0 then
    (f_Mod_way_306 N k80 (f_Mod_way_269 N k80 n) v0 v1 v3 v4 v5 v6 v7 v10 v11 0 r8.2)
    else
    (f_Mod_way_306 N k80 (f_Mod_way_269 N k80 n) v0 v1 v3 v4 v5 v6 v7 v10 v11 1 r8.2)))
set_option maxRecDepth 20000 in
set_option maxHeartbeats 2000000 in
theorem s_Mod_way_269 (X : z_X p s m args meth c prog_14_method_39_code 13 (some .int) Ts "StreamForgeModel" D dA B) {N : Nat} {r : Int32} {h' : z_H} {k80 : Nat → Int32 → Int32 → Int32 → Int32 → Int32 → Int32 → z_H → Option (Int32 × z_H)} (hk80 : ∀ (v0 : Nat) (v1 : Int32) (v3 : Int32) (v4 : Int32) (v5 : Int32) (v6 : Int32) (v7 : Int32) (h : z_H) (H : Heap) (locs : List Loc) (ls : Array Slot), z_I D dA B h s.heap H locs → lv_has ls 13 [(0, .ref v0), (1, .int v1), (3, .int v3), (4, .int v4), (5, .int v5), (6, .int v6), (7, .int v7)] → k80 v0 v1 v3 v4 v5 v6 v7 h = some (r, h') → W p l e (z_rm 1 22) s m args below meth c H locs 0 0 (MQ below (z_Q D dA B (some (.int r)) h') args s 0 0 (fun q => B ≤ q)) (F0 m 80 ls [])) : ∀ n : Nat, ∀ (v0 : Nat) (v1 : Int32) (v3 : Int32) (v4 : Int32) (v5 : Int32) (v6 : Int32) (v7 : Int32) (v10 : Int32) (v11 : Int32) (h : z_H) (H : Heap) (locs : List Loc) (ls : Array Slot), z_I D dA B h s.heap H locs → lv_has ls 13 [(0, .ref v0), (1, .int v1), (3, .int v3), (4, .int v4), (5, .int v5), (6, .int v6), (7, .int v7), (10, .int v10), (11, .int v11)] → f_Mod_way_269 N k80 n v0 v1 v3 v4 v5 v6 v7 v10 v11 h = some (r, h') → W p l e (z_rm 1 22) s m args below meth c H locs 0 0 (MQ below (z_Q D dA B (some (.int r)) h') args s 0 0 (fun q => B ≤ q)) (F0 m 269 ls []) := by
  have hx := z_hx X
  have hb := z_hb X
  intro n
  induction n with
  | zero => intro v0 v1 v3 v4 v5 v6 v7 v10 v11 h H locs ls hI hl hf; rw [f_Mod_way_269] at hf; cases hf
  | succ n ih =>
    intro v0 v1 v3 v4 v5 v6 v7 v10 v11 h H locs ls hI hl hf
    rw [f_Mod_way_269] at hf
    refine lv_iload hx hb d_Mod_way_269 (lv_at hl 8 rfl) ?_
    refine lv_iload hx hb d_Mod_way_271 (lv_at hl 7 rfl) ?_
    refine lv_icmp_ge (tgt := 340) hx hb d_Mod_way_273 (by decide) (fun c1 => ?_) (fun c1 => ?_)
    · rw [if_pos c1] at hf
      obtain ⟨x2, ex2, hf⟩ := z_bs hf
      refine lv_iinc (v := x2) (lv' := [(7, .int x2), (0, .ref v0), (1, .int v1), (3, .int v3), (4, .int v4), (5, .int v5), (6, .int v6), (10, .int v10), (11, .int v11)]) hx hb d_Mod_way_340 hl (k := 6) rfl (by rw [← Option.some.inj ex2]; rfl) (by decide) rfl (fun ls hl => ?_)
      refine lv_goto (tgt := 80) hx hb d_Mod_way_343 (by decide) ?_
      exact hk80 v0 v1 v3 v4 v5 v6 x2 h _ _ _ hI (lv_sub hl [1, 2, 3, 4, 5, 6, 0] rfl) hf
    · rw [if_neg c1] at hf
      refine lv_iload hx hb d_Mod_way_276 (lv_at hl 4 rfl) ?_
      refine lv_aload_n hx hb d_Mod_way_278 rfl (lv_at hl 0 rfl) ?_
      obtain ⟨x3, ex3, hf⟩ := z_bs hf
      refine z_getF X hI (k := 54) (ci := 12) (gI_s ex3) i_Mod rfl (by decide) wf_Mod_299 d_Mod_way_279 ?_
      refine lv_icmp_ge (tgt := 305) hx hb d_Mod_way_282 (by decide) (fun c4 => ?_) (fun c4 => ?_)
      · rw [if_pos c4] at hf
        refine lv_iconst (v := 0) hx hb d_Mod_way_305 (by decide) ?_
        exact s_Mod_way_306 X hk80 ih v0 v1 v3 v4 v5 v6 v7 v10 v11 0 h _ _ _ hI (lv_sub hl [0, 1, 2, 3, 4, 5, 6, 7, 8] rfl) hf
      · rw [if_neg c4] at hf
        refine lv_aload_n hx hb d_Mod_way_285 rfl (lv_at hl 0 rfl) ?_
        refine lv_iload hx hb d_Mod_way_286 (lv_at hl 6 rfl) ?_
        refine lv_aload_n hx hb d_Mod_way_288 rfl (lv_at hl 0 rfl) ?_
        obtain ⟨x5, ex5, hf⟩ := z_bs hf
        refine z_getF X hI (k := 51) (ci := 12) (gR_s ex5) i_Mod rfl (by decide) wf_Mod_121 d_Mod_way_289 ?_
        refine lv_iload hx hb d_Mod_way_292 (lv_at hl 4 rfl) ?_
        obtain ⟨x6, ex6, hf⟩ := z_bs hf
        refine z_iald X hI ex6 d_Mod_way_294 ?_
        obtain ⟨u7, eu7, hf⟩ := z_bs hf
        obtain ⟨r8, er8, hf⟩ := z_bs hf
        refine z_callV (As := [.int v7, .int x6]) (rest := []) (r := (some (.int r8.1))) (h' := r8.2) X hI eu7 (s_Mod_fits er8) rfl rfl wm_Mod_302 yi_Mod_fits rfl hl.1 rfl (Nat.le_of_ble_eq_true rfl) (by decide) (by decide) d_Mod_way_295 (fun H locs hI => ?_)
        refine W.eq (g2 := F0 m 298 ls [.int (r8.1)]) rfl ?_
        refine lv_if_eq (tgt := 305) hx hb d_Mod_way_298 (by decide) (fun c9 => ?_) (fun c9 => ?_)
        · rw [if_pos c9] at hf
          refine lv_iconst (v := 0) hx hb d_Mod_way_305 (by decide) ?_
          exact s_Mod_way_306 X hk80 ih v0 v1 v3 v4 v5 v6 v7 v10 v11 0 r8.2 _ _ _ hI (lv_sub hl [0, 1, 2, 3, 4, 5, 6, 7, 8] rfl) hf
        · rw [if_neg c9] at hf
          refine lv_iconst (v := 1) hx hb d_Mod_way_301 (by decide) ?_
          refine lv_goto (tgt := 306) hx hb d_Mod_way_302 (by decide) ?_
          exact s_Mod_way_306 X hk80 ih v0 v1 v3 v4 v5 v6 v7 v10 v11 1 r8.2 _ _ _ hI (lv_sub hl [0, 1, 2, 3, 4, 5, 6, 7, 8] rfl) hf
def f_Mod_way_80 (N : Nat)  : Nat → Nat → Int32 → Int32 → Int32 → Int32 → Int32 → Int32 → z_H → Option (Int32 × z_H)
  | 0, _, _, _, _, _, _, _, _ => none
  | n + 1, v0, v1, v3, v4, v5, v6, v7, h =>
    z_b (gR h v0 12 29) fun x1 =>
    z_b (aI h x1 0 v1) fun x2 =>
    if x2 ≤ v7 then
    (z_b (gR h v0 12 36) fun x4 =>
    z_b (aI h x4 3 v1) fun x5 =>
    if x5 = 0 then
    (some (v5, h))
    else
    (z_b (gI h v0 12 54) fun x7 =>
    if x7 ≤ v5 then
    (some (v5, h))
    else
    (some ((-1), h))))
    else
    (z_b (gR h v0 12 31) fun x9 =>
    z_b (aI h x9 0 v7) fun x10 =>
    z_b (gR h v0 12 32) fun x11 =>
    z_b (aI h x11 0 v7) fun x12 =>
    if x10 = 4 then
    (z_b (gR h v0 12 52) fun x27 =>
    z_b (uI h x27 0 x12 v5) fun h28 =>
    z_b (some (v7 + 1)) fun x29 =>
    (f_Mod_way_80 N  n) v0 v1 v3 v4 v5 v6 x29 h28)
    else
    (if x10 = 5 then
    (z_b (gR h v0 12 53) fun x22 =>
    z_b (gR h v0 12 52) fun x23 =>
    z_b (aI h x23 0 x12) fun x24 =>
    z_b (uI h x22 0 x12 (v5 - x24)) fun h25 =>
    z_b (some (v7 + 1)) fun x26 =>
    (f_Mod_way_80 N  n) v0 v1 v3 v4 v5 v6 x26 h25)
    else
    (if x10 = 3 then
    (f_Mod_way_162 N (f_Mod_way_80 N  n) N v0 v1 v3 v4 v5 v6 v7 x12 0 h)
    else
    (z_b (gR h v0 12 34) fun x16 =>
    z_b (aI h x16 3 v7) fun x17 =>
    if x17 = 0 then
    (f_Mod_way_269 N (f_Mod_way_80 N  n) N v0 v1 v3 v4 v5 v6 v7 1 0 h)
    else
    (if v6 = 0 then
    (z_b (some (v6 + 1)) fun x21 =>
    f_Mod_way_269 N (f_Mod_way_80 N  n) N v0 v1 v3 v4 v5 x21 v7 v3 0 h)
    else
    (z_b (some (v6 + 1)) fun x20 =>
    f_Mod_way_269 N (f_Mod_way_80 N  n) N v0 v1 v3 v4 v5 x20 v7 v4 0 h))))))
set_option maxRecDepth 20000 in
set_option maxHeartbeats 2000000 in
theorem s_Mod_way_80 (X : z_X p s m args meth c prog_14_method_39_code 13 (some .int) Ts "StreamForgeModel" D dA B) {N : Nat} {r : Int32} {h' : z_H}   : ∀ n : Nat, ∀ (v0 : Nat) (v1 : Int32) (v3 : Int32) (v4 : Int32) (v5 : Int32) (v6 : Int32) (v7 : Int32) (h : z_H) (H : Heap) (locs : List Loc) (ls : Array Slot), z_I D dA B h s.heap H locs → lv_has ls 13 [(0, .ref v0), (1, .int v1), (3, .int v3), (4, .int v4), (5, .int v5), (6, .int v6), (7, .int v7)] → f_Mod_way_80 N  n v0 v1 v3 v4 v5 v6 v7 h = some (r, h') → W p l e (z_rm 1 22) s m args below meth c H locs 0 0 (MQ below (z_Q D dA B (some (.int r)) h') args s 0 0 (fun q => B ≤ q)) (F0 m 80 ls []) := by
  have hx := z_hx X
  have hb := z_hb X
  intro n
  induction n with
  | zero => intro v0 v1 v3 v4 v5 v6 v7 h H locs ls hI hl hf; rw [f_Mod_way_80] at hf; cases hf
  | succ n ih =>
    intro v0 v1 v3 v4 v5 v6 v7 h H locs ls hI hl hf
    rw [f_Mod_way_80] at hf
    refine lv_iload hx hb d_Mod_way_80 (lv_at hl 6 rfl) ?_
    refine lv_aload_n hx hb d_Mod_way_82 rfl (lv_at hl 0 rfl) ?_
    obtain ⟨x1, ex1, hf⟩ := z_bs hf
    refine z_getF X hI (k := 29) (ci := 12) (gR_s ex1) i_Mod rfl (by decide) wf_Mod_84 d_Mod_way_83 ?_
    refine lv_iload_n hx hb d_Mod_way_86 rfl (lv_at hl 1 rfl) ?_
    obtain ⟨x2, ex2, hf⟩ := z_bs hf
    refine z_iald X hI ex2 d_Mod_way_87 ?_
    refine lv_icmp_ge (tgt := 346) hx hb d_Mod_way_88 (by decide) (fun c3 => ?_) (fun c3 => ?_)
    · rw [if_pos c3] at hf
      refine lv_aload_n hx hb d_Mod_way_346 rfl (lv_at hl 0 rfl) ?_
      obtain ⟨x4, ex4, hf⟩ := z_bs hf
      refine z_getF X hI (k := 36) (ci := 12) (gR_s ex4) i_Mod rfl (by decide) wf_Mod_105 d_Mod_way_347 ?_
      refine lv_iload_n hx hb d_Mod_way_350 rfl (lv_at hl 1 rfl) ?_
      obtain ⟨x5, ex5, hf⟩ := z_bs hf
      refine z_zald X hI ex5 d_Mod_way_351 ?_
      refine lv_if_eq (tgt := 368) hx hb d_Mod_way_352 (by decide) (fun c6 => ?_) (fun c6 => ?_)
      · rw [if_pos c6] at hf
        refine lv_iload hx hb d_Mod_way_368 (lv_at hl 4 rfl) ?_
        cases hf
        exact z_iret X hI d_Mod_way_370
      · rw [if_neg c6] at hf
        refine lv_iload hx hb d_Mod_way_355 (lv_at hl 4 rfl) ?_
        refine lv_aload_n hx hb d_Mod_way_357 rfl (lv_at hl 0 rfl) ?_
        obtain ⟨x7, ex7, hf⟩ := z_bs hf
        refine z_getF X hI (k := 54) (ci := 12) (gI_s ex7) i_Mod rfl (by decide) wf_Mod_299 d_Mod_way_358 ?_
        refine lv_icmp_ge (tgt := 368) hx hb d_Mod_way_361 (by decide) (fun c8 => ?_) (fun c8 => ?_)
        · rw [if_pos c8] at hf
          refine lv_iload hx hb d_Mod_way_368 (lv_at hl 4 rfl) ?_
          cases hf
          exact z_iret X hI d_Mod_way_370
        · rw [if_neg c8] at hf
          refine lv_iconst (v := (-1)) hx hb d_Mod_way_364 (by decide) ?_
          refine lv_goto (tgt := 370) hx hb d_Mod_way_365 (by decide) ?_
          cases hf
          exact z_iret X hI d_Mod_way_370
    · rw [if_neg c3] at hf
      refine lv_aload_n hx hb d_Mod_way_91 rfl (lv_at hl 0 rfl) ?_
      obtain ⟨x9, ex9, hf⟩ := z_bs hf
      refine z_getF X hI (k := 31) (ci := 12) (gR_s ex9) i_Mod rfl (by decide) wf_Mod_90 d_Mod_way_92 ?_
      refine lv_iload hx hb d_Mod_way_95 (lv_at hl 6 rfl) ?_
      obtain ⟨x10, ex10, hf⟩ := z_bs hf
      refine z_iald X hI ex10 d_Mod_way_97 ?_
      refine lv_istore (lv' := [(8, .int x10), (0, .ref v0), (1, .int v1), (3, .int v3), (4, .int v4), (5, .int v5), (6, .int v6), (7, .int v7)]) hx hb d_Mod_way_98 hl (by decide) rfl (fun ls hl => ?_)
      refine lv_aload_n hx hb d_Mod_way_100 rfl (lv_at hl 1 rfl) ?_
      obtain ⟨x11, ex11, hf⟩ := z_bs hf
      refine z_getF X hI (k := 32) (ci := 12) (gR_s ex11) i_Mod rfl (by decide) wf_Mod_93 d_Mod_way_101 ?_
      refine lv_iload hx hb d_Mod_way_104 (lv_at hl 7 rfl) ?_
      obtain ⟨x12, ex12, hf⟩ := z_bs hf
      refine z_iald X hI ex12 d_Mod_way_106 ?_
      refine lv_istore (lv' := [(9, .int x12), (8, .int x10), (0, .ref v0), (1, .int v1), (3, .int v3), (4, .int v4), (5, .int v5), (6, .int v6), (7, .int v7)]) hx hb d_Mod_way_107 hl (by decide) rfl (fun ls hl => ?_)
      refine lv_iload hx hb d_Mod_way_109 (lv_at hl 1 rfl) ?_
      refine lv_iconst (v := 4) hx hb d_Mod_way_111 (by decide) ?_
      refine lv_icmp_ne (tgt := 127) hx hb d_Mod_way_112 (by decide) (fun c13 => ?_) (fun c13 => ?_)
      · rw [if_neg c13] at hf
        refine lv_iload hx hb d_Mod_way_127 (lv_at hl 1 rfl) ?_
        refine lv_iconst (v := 5) hx hb d_Mod_way_129 (by decide) ?_
        refine lv_icmp_ne (tgt := 153) hx hb d_Mod_way_130 (by decide) (fun c14 => ?_) (fun c14 => ?_)
        · rw [if_neg c14] at hf
          refine lv_iload hx hb d_Mod_way_153 (lv_at hl 1 rfl) ?_
          refine lv_iconst (v := 3) hx hb d_Mod_way_155 (by decide) ?_
          refine lv_icmp_ne (tgt := 237) hx hb d_Mod_way_156 (by decide) (fun c15 => ?_) (fun c15 => ?_)
          · rw [if_neg c15] at hf
            refine lv_iconst (v := 1) hx hb d_Mod_way_237 (by decide) ?_
            refine lv_istore (lv' := [(10, .int 1), (9, .int x12), (8, .int x10), (0, .ref v0), (1, .int v1), (3, .int v3), (4, .int v4), (5, .int v5), (6, .int v6), (7, .int v7)]) hx hb d_Mod_way_238 hl (by decide) rfl (fun ls hl => ?_)
            refine lv_aload_n hx hb d_Mod_way_240 rfl (lv_at hl 3 rfl) ?_
            obtain ⟨x16, ex16, hf⟩ := z_bs hf
            refine z_getF X hI (k := 34) (ci := 12) (gR_s ex16) i_Mod rfl (by decide) wf_Mod_99 d_Mod_way_241 ?_
            refine lv_iload hx hb d_Mod_way_244 (lv_at hl 9 rfl) ?_
            obtain ⟨x17, ex17, hf⟩ := z_bs hf
            refine z_zald X hI ex17 d_Mod_way_246 ?_
            refine lv_if_eq (tgt := 266) hx hb d_Mod_way_247 (by decide) (fun c18 => ?_) (fun c18 => ?_)
            · rw [if_pos c18] at hf
              refine lv_iconst (v := 0) hx hb d_Mod_way_266 (by decide) ?_
              refine lv_istore (lv' := [(11, .int 0), (10, .int 1), (9, .int x12), (8, .int x10), (0, .ref v0), (1, .int v1), (3, .int v3), (4, .int v4), (5, .int v5), (6, .int v6), (7, .int v7)]) hx hb d_Mod_way_267 hl (by decide) rfl (fun ls hl => ?_)
              exact s_Mod_way_269 X ih N v0 v1 v3 v4 v5 v6 v7 1 0 h _ _ _ hI (lv_sub hl [4, 5, 6, 7, 8, 9, 10, 1, 0] rfl) hf
            · rw [if_neg c18] at hf
              refine lv_iload hx hb d_Mod_way_250 (lv_at hl 8 rfl) ?_
              refine lv_if_ne (tgt := 259) hx hb d_Mod_way_252 (by decide) (fun c19 => ?_) (fun c19 => ?_)
              · rw [if_neg c19] at hf
                refine lv_iload hx hb d_Mod_way_259 (lv_at hl 6 rfl) ?_
                refine lv_istore (lv' := [(10, .int v4), (9, .int x12), (8, .int x10), (0, .ref v0), (1, .int v1), (3, .int v3), (4, .int v4), (5, .int v5), (6, .int v6), (7, .int v7)]) hx hb d_Mod_way_261 hl (by decide) rfl (fun ls hl => ?_)
                obtain ⟨x20, ex20, hf⟩ := z_bs hf
                refine lv_iinc (v := x20) (lv' := [(6, .int x20), (10, .int v4), (9, .int x12), (8, .int x10), (0, .ref v0), (1, .int v1), (3, .int v3), (4, .int v4), (5, .int v5), (7, .int v7)]) hx hb d_Mod_way_263 hl (k := 8) rfl (by rw [← Option.some.inj ex20]; rfl) (by decide) rfl (fun ls hl => ?_)
                refine lv_iconst (v := 0) hx hb d_Mod_way_266 (by decide) ?_
                refine lv_istore (lv' := [(11, .int 0), (6, .int x20), (10, .int v4), (9, .int x12), (8, .int x10), (0, .ref v0), (1, .int v1), (3, .int v3), (4, .int v4), (5, .int v5), (7, .int v7)]) hx hb d_Mod_way_267 hl (by decide) rfl (fun ls hl => ?_)
                exact s_Mod_way_269 X ih N v0 v1 v3 v4 v5 x20 v7 v4 0 h _ _ _ hI (lv_sub hl [5, 6, 7, 8, 9, 1, 10, 2, 0] rfl) hf
              · rw [if_pos c19] at hf
                refine lv_iload_n hx hb d_Mod_way_255 rfl (lv_at hl 5 rfl) ?_
                refine lv_goto (tgt := 261) hx hb d_Mod_way_256 (by decide) ?_
                refine lv_istore (lv' := [(10, .int v3), (9, .int x12), (8, .int x10), (0, .ref v0), (1, .int v1), (3, .int v3), (4, .int v4), (5, .int v5), (6, .int v6), (7, .int v7)]) hx hb d_Mod_way_261 hl (by decide) rfl (fun ls hl => ?_)
                obtain ⟨x21, ex21, hf⟩ := z_bs hf
                refine lv_iinc (v := x21) (lv' := [(6, .int x21), (10, .int v3), (9, .int x12), (8, .int x10), (0, .ref v0), (1, .int v1), (3, .int v3), (4, .int v4), (5, .int v5), (7, .int v7)]) hx hb d_Mod_way_263 hl (k := 8) rfl (by rw [← Option.some.inj ex21]; rfl) (by decide) rfl (fun ls hl => ?_)
                refine lv_iconst (v := 0) hx hb d_Mod_way_266 (by decide) ?_
                refine lv_istore (lv' := [(11, .int 0), (6, .int x21), (10, .int v3), (9, .int x12), (8, .int x10), (0, .ref v0), (1, .int v1), (3, .int v3), (4, .int v4), (5, .int v5), (7, .int v7)]) hx hb d_Mod_way_267 hl (by decide) rfl (fun ls hl => ?_)
                exact s_Mod_way_269 X ih N v0 v1 v3 v4 v5 x21 v7 v3 0 h _ _ _ hI (lv_sub hl [5, 6, 7, 8, 9, 1, 10, 2, 0] rfl) hf
          · rw [if_pos c15] at hf
            refine lv_iconst (v := 0) hx hb d_Mod_way_159 (by decide) ?_
            refine lv_istore (lv' := [(10, .int 0), (9, .int x12), (8, .int x10), (0, .ref v0), (1, .int v1), (3, .int v3), (4, .int v4), (5, .int v5), (6, .int v6), (7, .int v7)]) hx hb d_Mod_way_160 hl (by decide) rfl (fun ls hl => ?_)
            exact s_Mod_way_162 X ih N v0 v1 v3 v4 v5 v6 v7 x12 0 h _ _ _ hI (lv_sub hl [3, 4, 5, 6, 7, 8, 9, 1, 0] rfl) hf
        · rw [if_pos c14] at hf
          refine lv_aload_n hx hb d_Mod_way_133 rfl (lv_at hl 2 rfl) ?_
          obtain ⟨x22, ex22, hf⟩ := z_bs hf
          refine z_getF X hI (k := 53) (ci := 12) (gR_s ex22) i_Mod rfl (by decide) wf_Mod_127 d_Mod_way_134 ?_
          refine lv_iload hx hb d_Mod_way_137 (lv_at hl 0 rfl) ?_
          refine lv_iload hx hb d_Mod_way_139 (lv_at hl 6 rfl) ?_
          refine lv_aload_n hx hb d_Mod_way_141 rfl (lv_at hl 2 rfl) ?_
          obtain ⟨x23, ex23, hf⟩ := z_bs hf
          refine z_getF X hI (k := 52) (ci := 12) (gR_s ex23) i_Mod rfl (by decide) wf_Mod_124 d_Mod_way_142 ?_
          refine lv_iload hx hb d_Mod_way_145 (lv_at hl 0 rfl) ?_
          obtain ⟨x24, ex24, hf⟩ := z_bs hf
          refine z_iald X hI ex24 d_Mod_way_147 ?_
          refine lv_isub hx hb d_Mod_way_148 ?_
          obtain ⟨h25, eh25, hf⟩ := z_bs hf
          refine z_iast X hI eh25 d_Mod_way_149 (fun H locs hI => ?_)
          refine lv_goto (tgt := 340) hx hb d_Mod_way_150 (by decide) ?_
          obtain ⟨x26, ex26, hf⟩ := z_bs hf
          refine lv_iinc (v := x26) (lv' := [(7, .int x26), (9, .int x12), (8, .int x10), (0, .ref v0), (1, .int v1), (3, .int v3), (4, .int v4), (5, .int v5), (6, .int v6)]) hx hb d_Mod_way_340 hl (k := 8) rfl (by rw [← Option.some.inj ex26]; rfl) (by decide) rfl (fun ls hl => ?_)
          refine lv_goto (tgt := 80) hx hb d_Mod_way_343 (by decide) ?_
          exact ih v0 v1 v3 v4 v5 v6 x26 h25 _ _ _ hI (lv_sub hl [3, 4, 5, 6, 7, 8, 0] rfl) hf
      · rw [if_pos c13] at hf
        refine lv_aload_n hx hb d_Mod_way_115 rfl (lv_at hl 2 rfl) ?_
        obtain ⟨x27, ex27, hf⟩ := z_bs hf
        refine z_getF X hI (k := 52) (ci := 12) (gR_s ex27) i_Mod rfl (by decide) wf_Mod_124 d_Mod_way_116 ?_
        refine lv_iload hx hb d_Mod_way_119 (lv_at hl 0 rfl) ?_
        refine lv_iload hx hb d_Mod_way_121 (lv_at hl 6 rfl) ?_
        obtain ⟨h28, eh28, hf⟩ := z_bs hf
        refine z_iast X hI eh28 d_Mod_way_123 (fun H locs hI => ?_)
        refine lv_goto (tgt := 340) hx hb d_Mod_way_124 (by decide) ?_
        obtain ⟨x29, ex29, hf⟩ := z_bs hf
        refine lv_iinc (v := x29) (lv' := [(7, .int x29), (9, .int x12), (8, .int x10), (0, .ref v0), (1, .int v1), (3, .int v3), (4, .int v4), (5, .int v5), (6, .int v6)]) hx hb d_Mod_way_340 hl (k := 8) rfl (by rw [← Option.some.inj ex29]; rfl) (by decide) rfl (fun ls hl => ?_)
        refine lv_goto (tgt := 80) hx hb d_Mod_way_343 (by decide) ?_
        exact ih v0 v1 v3 v4 v5 v6 x29 h28 _ _ _ hI (lv_sub hl [3, 4, 5, 6, 7, 8, 0] rfl) hf
def f_Mod_way_72 (N : Nat)  (v0 : Nat) (v1 : Int32) (v3 : Int32) (v4 : Int32) (v5 : Int32) (v6 : Int32) (h : z_H) : Option (Int32 × z_H) :=
  z_b (gR h v0 12 28) fun x1 =>
  z_b (aI h x1 0 v1) fun x2 =>
  f_Mod_way_80 N N v0 v1 v3 v4 v5 v6 x2 h
set_option maxRecDepth 20000 in
set_option maxHeartbeats 2000000 in
theorem s_Mod_way_72 (X : z_X p s m args meth c prog_14_method_39_code 13 (some .int) Ts "StreamForgeModel" D dA B) {N : Nat} {r : Int32} {h' : z_H}   : ∀ (v0 : Nat) (v1 : Int32) (v3 : Int32) (v4 : Int32) (v5 : Int32) (v6 : Int32) (h : z_H) (H : Heap) (locs : List Loc) (ls : Array Slot), z_I D dA B h s.heap H locs → lv_has ls 13 [(0, .ref v0), (1, .int v1), (3, .int v3), (4, .int v4), (5, .int v5), (6, .int v6)] → f_Mod_way_72 N  v0 v1 v3 v4 v5 v6 h = some (r, h') → W p l e (z_rm 1 22) s m args below meth c H locs 0 0 (MQ below (z_Q D dA B (some (.int r)) h') args s 0 0 (fun q => B ≤ q)) (F0 m 72 ls []) := by
  have hx := z_hx X
  have hb := z_hb X
  intro v0 v1 v3 v4 v5 v6 h H locs ls hI hl hf
  unfold f_Mod_way_72 at hf
  refine lv_aload_n hx hb d_Mod_way_72 rfl (lv_at hl 0 rfl) ?_
  obtain ⟨x1, ex1, hf⟩ := z_bs hf
  refine z_getF X hI (k := 28) (ci := 12) (gR_s ex1) i_Mod rfl (by decide) wf_Mod_81 d_Mod_way_73 ?_
  refine lv_iload_n hx hb d_Mod_way_76 rfl (lv_at hl 1 rfl) ?_
  obtain ⟨x2, ex2, hf⟩ := z_bs hf
  refine z_iald X hI ex2 d_Mod_way_77 ?_
  refine lv_istore (lv' := [(7, .int x2), (0, .ref v0), (1, .int v1), (3, .int v3), (4, .int v4), (5, .int v5), (6, .int v6)]) hx hb d_Mod_way_78 hl (by decide) rfl (fun ls hl => ?_)
  exact s_Mod_way_80 X  N v0 v1 v3 v4 v5 v6 x2 h _ _ _ hI (lv_sub hl [1, 2, 3, 4, 5, 6, 0] rfl) hf
def f_Mod_way_37 (N : Nat)  : Nat → Nat → Int32 → Int32 → Int32 → Int32 → Int32 → Int32 → Int32 → z_H → Option (Int32 × z_H)
  | 0, _, _, _, _, _, _, _, _, _ => none
  | n + 1, v0, v1, v2, v3, v4, v5, v6, v7, h =>
    if 4 ≤ v7 then
    (z_b (gR h v0 12 35) fun x2 =>
    z_b (aI h x2 3 v1) fun x3 =>
    if x3 = 0 then
    (f_Mod_way_72 N v0 v1 v3 v4 v5 v6 h)
    else
    (if v2 ≤ 0 then
    (f_Mod_way_72 N v0 v1 v3 v4 v5 v6 h)
    else
    (some ((-1), h))))
    else
    (z_b (gR h v0 12 53) fun x6 =>
    z_b (uI h x6 0 v7 (-1)) fun h7 =>
    z_b (some (v7 + 1)) fun x8 =>
    (f_Mod_way_37 N  n) v0 v1 v2 v3 v4 v5 v6 x8 h7)
set_option maxRecDepth 20000 in
set_option maxHeartbeats 2000000 in
theorem s_Mod_way_37 (X : z_X p s m args meth c prog_14_method_39_code 13 (some .int) Ts "StreamForgeModel" D dA B) {N : Nat} {r : Int32} {h' : z_H}   : ∀ n : Nat, ∀ (v0 : Nat) (v1 : Int32) (v2 : Int32) (v3 : Int32) (v4 : Int32) (v5 : Int32) (v6 : Int32) (v7 : Int32) (h : z_H) (H : Heap) (locs : List Loc) (ls : Array Slot), z_I D dA B h s.heap H locs → lv_has ls 13 [(0, .ref v0), (1, .int v1), (2, .int v2), (3, .int v3), (4, .int v4), (5, .int v5), (6, .int v6), (7, .int v7)] → f_Mod_way_37 N  n v0 v1 v2 v3 v4 v5 v6 v7 h = some (r, h') → W p l e (z_rm 1 22) s m args below meth c H locs 0 0 (MQ below (z_Q D dA B (some (.int r)) h') args s 0 0 (fun q => B ≤ q)) (F0 m 37 ls []) := by
  have hx := z_hx X
  have hb := z_hb X
  intro n
  induction n with
  | zero => intro v0 v1 v2 v3 v4 v5 v6 v7 h H locs ls hI hl hf; rw [f_Mod_way_37] at hf; cases hf
  | succ n ih =>
    intro v0 v1 v2 v3 v4 v5 v6 v7 h H locs ls hI hl hf
    rw [f_Mod_way_37] at hf
    refine lv_iload hx hb d_Mod_way_37 (lv_at hl 7 rfl) ?_
    refine lv_iconst (v := 4) hx hb d_Mod_way_39 (by decide) ?_
    refine lv_icmp_ge (tgt := 57) hx hb d_Mod_way_40 (by decide) (fun c1 => ?_) (fun c1 => ?_)
    · rw [if_pos c1] at hf
      refine lv_aload_n hx hb d_Mod_way_57 rfl (lv_at hl 0 rfl) ?_
      obtain ⟨x2, ex2, hf⟩ := z_bs hf
      refine z_getF X hI (k := 35) (ci := 12) (gR_s ex2) i_Mod rfl (by decide) wf_Mod_102 d_Mod_way_58 ?_
      refine lv_iload_n hx hb d_Mod_way_61 rfl (lv_at hl 1 rfl) ?_
      obtain ⟨x3, ex3, hf⟩ := z_bs hf
      refine z_zald X hI ex3 d_Mod_way_62 ?_
      refine lv_if_eq (tgt := 72) hx hb d_Mod_way_63 (by decide) (fun c4 => ?_) (fun c4 => ?_)
      · rw [if_pos c4] at hf
        exact s_Mod_way_72 X  v0 v1 v3 v4 v5 v6 h _ _ _ hI (lv_sub hl [0, 1, 3, 4, 5, 6] rfl) hf
      · rw [if_neg c4] at hf
        refine lv_iload_n hx hb d_Mod_way_66 rfl (lv_at hl 2 rfl) ?_
        refine lv_if_le (tgt := 72) hx hb d_Mod_way_67 (by decide) (fun c5 => ?_) (fun c5 => ?_)
        · rw [if_pos c5] at hf
          exact s_Mod_way_72 X  v0 v1 v3 v4 v5 v6 h _ _ _ hI (lv_sub hl [0, 1, 3, 4, 5, 6] rfl) hf
        · rw [if_neg c5] at hf
          refine lv_iconst (v := (-1)) hx hb d_Mod_way_70 (by decide) ?_
          cases hf
          exact z_iret X hI d_Mod_way_71
    · rw [if_neg c1] at hf
      refine lv_aload_n hx hb d_Mod_way_43 rfl (lv_at hl 0 rfl) ?_
      obtain ⟨x6, ex6, hf⟩ := z_bs hf
      refine z_getF X hI (k := 53) (ci := 12) (gR_s ex6) i_Mod rfl (by decide) wf_Mod_127 d_Mod_way_44 ?_
      refine lv_iload hx hb d_Mod_way_47 (lv_at hl 7 rfl) ?_
      refine lv_iconst (v := (-1)) hx hb d_Mod_way_49 (by decide) ?_
      obtain ⟨h7, eh7, hf⟩ := z_bs hf
      refine z_iast X hI eh7 d_Mod_way_50 (fun H locs hI => ?_)
      obtain ⟨x8, ex8, hf⟩ := z_bs hf
      refine lv_iinc (v := x8) (lv' := [(7, .int x8), (0, .ref v0), (1, .int v1), (2, .int v2), (3, .int v3), (4, .int v4), (5, .int v5), (6, .int v6)]) hx hb d_Mod_way_51 hl (k := 7) rfl (by rw [← Option.some.inj ex8]; rfl) (by decide) rfl (fun ls hl => ?_)
      refine lv_goto (tgt := 37) hx hb d_Mod_way_54 (by decide) ?_
      exact ih v0 v1 v2 v3 v4 v5 v6 x8 h7 _ _ _ hI (lv_sub hl [1, 2, 3, 4, 5, 6, 7, 0] rfl) hf
def f_Mod_way_14 (N : Nat)  : Nat → Nat → Int32 → Int32 → Int32 → Int32 → Int32 → Int32 → Int32 → z_H → Option (Int32 × z_H)
  | 0, _, _, _, _, _, _, _, _, _ => none
  | n + 1, v0, v1, v2, v3, v4, v5, v6, v7, h =>
    if 4 ≤ v7 then
    (f_Mod_way_37 N N v0 v1 v2 v3 v4 v5 v6 1 h)
    else
    (z_b (gR h v0 12 52) fun x2 =>
    z_b (uI h x2 0 v7 (-1)) fun h3 =>
    z_b (some (v7 + 1)) fun x4 =>
    (f_Mod_way_14 N  n) v0 v1 v2 v3 v4 v5 v6 x4 h3)
set_option maxRecDepth 20000 in
set_option maxHeartbeats 2000000 in
theorem s_Mod_way_14 (X : z_X p s m args meth c prog_14_method_39_code 13 (some .int) Ts "StreamForgeModel" D dA B) {N : Nat} {r : Int32} {h' : z_H}   : ∀ n : Nat, ∀ (v0 : Nat) (v1 : Int32) (v2 : Int32) (v3 : Int32) (v4 : Int32) (v5 : Int32) (v6 : Int32) (v7 : Int32) (h : z_H) (H : Heap) (locs : List Loc) (ls : Array Slot), z_I D dA B h s.heap H locs → lv_has ls 13 [(0, .ref v0), (1, .int v1), (2, .int v2), (3, .int v3), (4, .int v4), (5, .int v5), (6, .int v6), (7, .int v7)] → f_Mod_way_14 N  n v0 v1 v2 v3 v4 v5 v6 v7 h = some (r, h') → W p l e (z_rm 1 22) s m args below meth c H locs 0 0 (MQ below (z_Q D dA B (some (.int r)) h') args s 0 0 (fun q => B ≤ q)) (F0 m 14 ls []) := by
  have hx := z_hx X
  have hb := z_hb X
  intro n
  induction n with
  | zero => intro v0 v1 v2 v3 v4 v5 v6 v7 h H locs ls hI hl hf; rw [f_Mod_way_14] at hf; cases hf
  | succ n ih =>
    intro v0 v1 v2 v3 v4 v5 v6 v7 h H locs ls hI hl hf
    rw [f_Mod_way_14] at hf
    refine lv_iload hx hb d_Mod_way_14 (lv_at hl 7 rfl) ?_
    refine lv_iconst (v := 4) hx hb d_Mod_way_16 (by decide) ?_
    refine lv_icmp_ge (tgt := 34) hx hb d_Mod_way_17 (by decide) (fun c1 => ?_) (fun c1 => ?_)
    · rw [if_pos c1] at hf
      refine lv_iconst (v := 1) hx hb d_Mod_way_34 (by decide) ?_
      refine lv_istore (lv' := [(7, .int 1), (0, .ref v0), (1, .int v1), (2, .int v2), (3, .int v3), (4, .int v4), (5, .int v5), (6, .int v6)]) hx hb d_Mod_way_35 hl (by decide) rfl (fun ls hl => ?_)
      exact s_Mod_way_37 X  N v0 v1 v2 v3 v4 v5 v6 1 h _ _ _ hI (lv_sub hl [1, 2, 3, 4, 5, 6, 7, 0] rfl) hf
    · rw [if_neg c1] at hf
      refine lv_aload_n hx hb d_Mod_way_20 rfl (lv_at hl 0 rfl) ?_
      obtain ⟨x2, ex2, hf⟩ := z_bs hf
      refine z_getF X hI (k := 52) (ci := 12) (gR_s ex2) i_Mod rfl (by decide) wf_Mod_124 d_Mod_way_21 ?_
      refine lv_iload hx hb d_Mod_way_24 (lv_at hl 7 rfl) ?_
      refine lv_iconst (v := (-1)) hx hb d_Mod_way_26 (by decide) ?_
      obtain ⟨h3, eh3, hf⟩ := z_bs hf
      refine z_iast X hI eh3 d_Mod_way_27 (fun H locs hI => ?_)
      obtain ⟨x4, ex4, hf⟩ := z_bs hf
      refine lv_iinc (v := x4) (lv' := [(7, .int x4), (0, .ref v0), (1, .int v1), (2, .int v2), (3, .int v3), (4, .int v4), (5, .int v5), (6, .int v6)]) hx hb d_Mod_way_28 hl (k := 7) rfl (by rw [← Option.some.inj ex4]; rfl) (by decide) rfl (fun ls hl => ?_)
      refine lv_goto (tgt := 14) hx hb d_Mod_way_31 (by decide) ?_
      exact ih v0 v1 v2 v3 v4 v5 v6 x4 h3 _ _ _ hI (lv_sub hl [1, 2, 3, 4, 5, 6, 7, 0] rfl) hf
def f_Mod_way (N : Nat) (v0 : Nat) (v1 : Int32) (v2 : Int32) (v3 : Int32) (v4 : Int32) (h : z_H) : Option (Int32 × z_H) :=
  z_b (sF h v0 12 55 (.int 0)) fun h1 =>
  f_Mod_way_14 N N v0 v1 v2 v3 v4 v2 0 1 h1
set_option maxRecDepth 20000 in
set_option maxHeartbeats 2000000 in
theorem s_Mod_way {l : Launch} {D : va_G} {dA : Nat → ClassId} {B N : Nat} {v0 : Nat} {v1 : Int32} {v2 : Int32} {v3 : Int32} {v4 : Int32} {h h' : z_H} {r : Int32} (hf : f_Mod_way N v0 v1 v2 v3 v4 h = some (r, h')) : z_Met l y_Mod_way prog_14_method_39_code 13 (some .int) 1 22 D dA B [.ref v0, .int v1, .int v2, .int v3, .int v4] h (some (.int r)) h' := by
  refine z_of (by decide) (Nat.le_of_ble_eq_true rfl) (fun p e s m below meth c ls X hI hl => ?_)
  have hx := z_hx X
  have hb := z_hb X
  have hl : lv_has ls 13 [(0, .ref v0), (1, .int v1), (2, .int v2), (3, .int v3), (4, .int v4)] := hl
  unfold f_Mod_way at hf
  obtain ⟨locs, hlo⟩ : ∃ z : List Loc, z = [] := ⟨_, rfl⟩
  rw [← hlo] at hI ⊢
  refine lv_iload_n hx hb d_Mod_way_0 rfl (lv_at hl 2 rfl) ?_
  refine lv_istore (lv' := [(5, .int v2), (0, .ref v0), (1, .int v1), (2, .int v2), (3, .int v3), (4, .int v4)]) hx hb d_Mod_way_1 hl (by decide) rfl (fun ls hl => ?_)
  refine lv_iconst (v := 0) hx hb d_Mod_way_3 (by decide) ?_
  refine lv_istore (lv' := [(6, .int 0), (5, .int v2), (0, .ref v0), (1, .int v1), (2, .int v2), (3, .int v3), (4, .int v4)]) hx hb d_Mod_way_4 hl (by decide) rfl (fun ls hl => ?_)
  refine lv_aload_n hx hb d_Mod_way_6 rfl (lv_at hl 2 rfl) ?_
  refine lv_iconst (v := 0) hx hb d_Mod_way_7 (by decide) ?_
  obtain ⟨h1, eh1, hf⟩ := z_bs hf
  refine z_putF X hI (k := 55) (ci := 12) (ty0 := t_Mod) eh1 i_Mod t_Mod_ok n_Mod rfl (by decide) wf_Mod_296 rfl rfl rfl d_Mod_way_8 (fun H locs hI => ?_)
  refine lv_iconst (v := 1) hx hb d_Mod_way_11 (by decide) ?_
  refine lv_istore (lv' := [(7, .int 1), (6, .int 0), (5, .int v2), (0, .ref v0), (1, .int v1), (2, .int v2), (3, .int v3), (4, .int v4)]) hx hb d_Mod_way_12 hl (by decide) rfl (fun ls hl => ?_)
  exact s_Mod_way_14 X  N v0 v1 v2 v3 v4 v2 0 1 h1 _ _ _ hI (lv_sub hl [3, 4, 5, 6, 7, 2, 1, 0] rfl) hf
def f_Mod_starsOf_9 (N : Nat)  : Nat → Nat → Int32 → Int32 → Int32 → z_H → Option (Int32 × z_H)
  | 0, _, _, _, _, _ => none
  | n + 1, v0, v1, v2, v3, h =>
    z_b (gR h v0 12 29) fun x1 =>
    z_b (aI h x1 0 v1) fun x2 =>
    if x2 ≤ v3 then
    (some (v2, h))
    else
    (z_b (gR h v0 12 34) fun x4 =>
    z_b (aI h x4 3 v3) fun x5 =>
    if x5 = 0 then
    (z_b (some (v3 + 1)) fun x7 =>
    (f_Mod_starsOf_9 N  n) v0 v1 v2 x7 h)
    else
    (z_b (some (v2 + 1)) fun x8 =>
    z_b (some (v3 + 1)) fun x9 =>
    (f_Mod_starsOf_9 N  n) v0 v1 x8 x9 h))
set_option maxRecDepth 20000 in
set_option maxHeartbeats 2000000 in
theorem s_Mod_starsOf_9 (X : z_X p s m args meth c prog_14_method_40_code 4 (some .int) Ts "StreamForgeModel" D dA B) {N : Nat} {r : Int32} {h' : z_H}   : ∀ n : Nat, ∀ (v0 : Nat) (v1 : Int32) (v2 : Int32) (v3 : Int32) (h : z_H) (H : Heap) (locs : List Loc) (ls : Array Slot), z_I D dA B h s.heap H locs → lv_has ls 4 [(0, .ref v0), (1, .int v1), (2, .int v2), (3, .int v3)] → f_Mod_starsOf_9 N  n v0 v1 v2 v3 h = some (r, h') → W p l e (z_rm 0 0) s m args below meth c H locs 0 0 (MQ below (z_Q D dA B (some (.int r)) h') args s 0 0 (fun q => B ≤ q)) (F0 m 9 ls []) := by
  have hx := z_hx X
  have hb := z_hb X
  intro n
  induction n with
  | zero => intro v0 v1 v2 v3 h H locs ls hI hl hf; rw [f_Mod_starsOf_9] at hf; cases hf
  | succ n ih =>
    intro v0 v1 v2 v3 h H locs ls hI hl hf
    rw [f_Mod_starsOf_9] at hf
    refine lv_iload_n hx hb d_Mod_starsOf_9 rfl (lv_at hl 3 rfl) ?_
    refine lv_aload_n hx hb d_Mod_starsOf_10 rfl (lv_at hl 0 rfl) ?_
    obtain ⟨x1, ex1, hf⟩ := z_bs hf
    refine z_getF X hI (k := 29) (ci := 12) (gR_s ex1) i_Mod rfl (by decide) wf_Mod_84 d_Mod_starsOf_11 ?_
    refine lv_iload_n hx hb d_Mod_starsOf_14 rfl (lv_at hl 1 rfl) ?_
    obtain ⟨x2, ex2, hf⟩ := z_bs hf
    refine z_iald X hI ex2 d_Mod_starsOf_15 ?_
    refine lv_icmp_ge (tgt := 37) hx hb d_Mod_starsOf_16 (by decide) (fun c3 => ?_) (fun c3 => ?_)
    · rw [if_pos c3] at hf
      refine lv_iload_n hx hb d_Mod_starsOf_37 rfl (lv_at hl 2 rfl) ?_
      cases hf
      exact z_iret X hI d_Mod_starsOf_38
    · rw [if_neg c3] at hf
      refine lv_aload_n hx hb d_Mod_starsOf_19 rfl (lv_at hl 0 rfl) ?_
      obtain ⟨x4, ex4, hf⟩ := z_bs hf
      refine z_getF X hI (k := 34) (ci := 12) (gR_s ex4) i_Mod rfl (by decide) wf_Mod_99 d_Mod_starsOf_20 ?_
      refine lv_iload_n hx hb d_Mod_starsOf_23 rfl (lv_at hl 3 rfl) ?_
      obtain ⟨x5, ex5, hf⟩ := z_bs hf
      refine z_zald X hI ex5 d_Mod_starsOf_24 ?_
      refine lv_if_eq (tgt := 31) hx hb d_Mod_starsOf_25 (by decide) (fun c6 => ?_) (fun c6 => ?_)
      · rw [if_pos c6] at hf
        obtain ⟨x7, ex7, hf⟩ := z_bs hf
        refine lv_iinc (v := x7) (lv' := [(3, .int x7), (0, .ref v0), (1, .int v1), (2, .int v2)]) hx hb d_Mod_starsOf_31 hl (k := 3) rfl (by rw [← Option.some.inj ex7]; rfl) (by decide) rfl (fun ls hl => ?_)
        refine lv_goto (tgt := 9) hx hb d_Mod_starsOf_34 (by decide) ?_
        exact ih v0 v1 v2 x7 h _ _ _ hI (lv_sub hl [1, 2, 3, 0] rfl) hf
      · rw [if_neg c6] at hf
        obtain ⟨x8, ex8, hf⟩ := z_bs hf
        refine lv_iinc (v := x8) (lv' := [(2, .int x8), (0, .ref v0), (1, .int v1), (3, .int v3)]) hx hb d_Mod_starsOf_28 hl (k := 2) rfl (by rw [← Option.some.inj ex8]; rfl) (by decide) rfl (fun ls hl => ?_)
        obtain ⟨x9, ex9, hf⟩ := z_bs hf
        refine lv_iinc (v := x9) (lv' := [(3, .int x9), (2, .int x8), (0, .ref v0), (1, .int v1)]) hx hb d_Mod_starsOf_31 hl (k := 3) rfl (by rw [← Option.some.inj ex9]; rfl) (by decide) rfl (fun ls hl => ?_)
        refine lv_goto (tgt := 9) hx hb d_Mod_starsOf_34 (by decide) ?_
        exact ih v0 v1 x8 x9 h _ _ _ hI (lv_sub hl [2, 3, 1, 0] rfl) hf
def f_Mod_starsOf (N : Nat) (v0 : Nat) (v1 : Int32) (h : z_H) : Option (Int32 × z_H) :=
  z_b (gR h v0 12 28) fun x1 =>
  z_b (aI h x1 0 v1) fun x2 =>
  f_Mod_starsOf_9 N N v0 v1 0 x2 h
set_option maxRecDepth 20000 in
set_option maxHeartbeats 2000000 in
theorem s_Mod_starsOf {l : Launch} {D : va_G} {dA : Nat → ClassId} {B N : Nat} {v0 : Nat} {v1 : Int32} {h h' : z_H} {r : Int32} (hf : f_Mod_starsOf N v0 v1 h = some (r, h')) : z_Met l y_Mod_starsOf prog_14_method_40_code 4 (some .int) 0 0 D dA B [.ref v0, .int v1] h (some (.int r)) h' := by
  refine z_of (by decide) (Nat.le_of_ble_eq_true rfl) (fun p e s m below meth c ls X hI hl => ?_)
  have hx := z_hx X
  have hb := z_hb X
  have hl : lv_has ls 4 [(0, .ref v0), (1, .int v1)] := hl
  unfold f_Mod_starsOf at hf
  obtain ⟨locs, hlo⟩ : ∃ z : List Loc, z = [] := ⟨_, rfl⟩
  rw [← hlo] at hI ⊢
  refine lv_iconst (v := 0) hx hb d_Mod_starsOf_0 (by decide) ?_
  refine lv_istore_n (lv' := [(2, .int 0), (0, .ref v0), (1, .int v1)]) hx hb d_Mod_starsOf_1 rfl hl (by decide) rfl (fun ls hl => ?_)
  refine lv_aload_n hx hb d_Mod_starsOf_2 rfl (lv_at hl 1 rfl) ?_
  obtain ⟨x1, ex1, hf⟩ := z_bs hf
  refine z_getF X hI (k := 28) (ci := 12) (gR_s ex1) i_Mod rfl (by decide) wf_Mod_81 d_Mod_starsOf_3 ?_
  refine lv_iload_n hx hb d_Mod_starsOf_6 rfl (lv_at hl 2 rfl) ?_
  obtain ⟨x2, ex2, hf⟩ := z_bs hf
  refine z_iald X hI ex2 d_Mod_starsOf_7 ?_
  refine lv_istore_n (lv' := [(3, .int x2), (2, .int 0), (0, .ref v0), (1, .int v1)]) hx hb d_Mod_starsOf_8 rfl hl (by decide) rfl (fun ls hl => ?_)
  exact s_Mod_starsOf_9 X  N v0 v1 0 x2 h _ _ _ hI (lv_sub hl [2, 3, 1, 0] rfl) hf
def f_Mod_find_131 (N : Nat) (k9 : Nat → Int32 → Int32 → Int32 → z_H → Option (Int32 × z_H)) (k33 : Nat → Int32 → Int32 → Int32 → Int32 → Int32 → Int32 → Int32 → Int32 → z_H → Option (Int32 × z_H)) (k61 : Nat → Int32 → Int32 → Int32 → Int32 → Int32 → Int32 → Int32 → Int32 → Int32 → Int32 → z_H → Option (Int32 × z_H)) (v0 : Nat) (v1 : Int32) (v3 : Int32) (v4 : Int32) (v5 : Int32) (v6 : Int32) (v7 : Int32) (v8 : Int32) (v9 : Int32) (v10 : Int32) (v11 : Int32) (h : z_H) : Option (Int32 × z_H) :=
  z_b (gI h v0 12 55) fun x1 =>
  if x1 = 1 then
  (z_b (some (v11 + 1)) fun x4 =>
  k61 v0 v1 v3 v4 v5 v6 v7 0 v9 v10 x4 h)
  else
  (z_b (some (v11 + 1)) fun x3 =>
  k61 v0 v1 v3 v4 v5 v6 v7 v8 v9 v10 x3 h)
set_option maxRecDepth 20000 in
set_option maxHeartbeats 2000000 in
theorem s_Mod_find_131 (X : z_X p s m args meth c prog_14_method_41_code 13 (some .boolean) Ts "StreamForgeModel" D dA B) {N : Nat} {r : Int32} {h' : z_H} {k9 : Nat → Int32 → Int32 → Int32 → z_H → Option (Int32 × z_H)} {k33 : Nat → Int32 → Int32 → Int32 → Int32 → Int32 → Int32 → Int32 → Int32 → z_H → Option (Int32 × z_H)} {k61 : Nat → Int32 → Int32 → Int32 → Int32 → Int32 → Int32 → Int32 → Int32 → Int32 → Int32 → z_H → Option (Int32 × z_H)} (hk9 : ∀ (v0 : Nat) (v1 : Int32) (v3 : Int32) (v4 : Int32) (h : z_H) (H : Heap) (locs : List Loc) (ls : Array Slot), z_I D dA B h s.heap H locs → lv_has ls 13 [(0, .ref v0), (1, .int v1), (3, .int v3), (4, .int v4)] → k9 v0 v1 v3 v4 h = some (r, h') → W p l e (z_rm 2 54) s m args below meth c H locs 0 0 (MQ below (z_Q D dA B (some (.int r)) h') args s 0 0 (fun q => B ≤ q)) (F0 m 9 ls [])) (hk33 : ∀ (v0 : Nat) (v1 : Int32) (v3 : Int32) (v4 : Int32) (v5 : Int32) (v6 : Int32) (v7 : Int32) (v8 : Int32) (v9 : Int32) (h : z_H) (H : Heap) (locs : List Loc) (ls : Array Slot), z_I D dA B h s.heap H locs → lv_has ls 13 [(0, .ref v0), (1, .int v1), (3, .int v3), (4, .int v4), (5, .int v5), (6, .int v6), (7, .int v7), (8, .int v8), (9, .int v9)] → k33 v0 v1 v3 v4 v5 v6 v7 v8 v9 h = some (r, h') → W p l e (z_rm 2 54) s m args below meth c H locs 0 0 (MQ below (z_Q D dA B (some (.int r)) h') args s 0 0 (fun q => B ≤ q)) (F0 m 33 ls [])) (hk61 : ∀ (v0 : Nat) (v1 : Int32) (v3 : Int32) (v4 : Int32) (v5 : Int32) (v6 : Int32) (v7 : Int32) (v8 : Int32) (v9 : Int32) (v10 : Int32) (v11 : Int32) (h : z_H) (H : Heap) (locs : List Loc) (ls : Array Slot), z_I D dA B h s.heap H locs → lv_has ls 13 [(0, .ref v0), (1, .int v1), (3, .int v3), (4, .int v4), (5, .int v5), (6, .int v6), (7, .int v7), (8, .int v8), (9, .int v9), (10, .int v10), (11, .int v11)] → k61 v0 v1 v3 v4 v5 v6 v7 v8 v9 v10 v11 h = some (r, h') → W p l e (z_rm 2 54) s m args below meth c H locs 0 0 (MQ below (z_Q D dA B (some (.int r)) h') args s 0 0 (fun q => B ≤ q)) (F0 m 61 ls [])) : ∀ (v0 : Nat) (v1 : Int32) (v3 : Int32) (v4 : Int32) (v5 : Int32) (v6 : Int32) (v7 : Int32) (v8 : Int32) (v9 : Int32) (v10 : Int32) (v11 : Int32) (h : z_H) (H : Heap) (locs : List Loc) (ls : Array Slot), z_I D dA B h s.heap H locs → lv_has ls 13 [(0, .ref v0), (1, .int v1), (3, .int v3), (4, .int v4), (5, .int v5), (6, .int v6), (7, .int v7), (8, .int v8), (9, .int v9), (10, .int v10), (11, .int v11)] → f_Mod_find_131 N k9 k33 k61 v0 v1 v3 v4 v5 v6 v7 v8 v9 v10 v11 h = some (r, h') → W p l e (z_rm 2 54) s m args below meth c H locs 0 0 (MQ below (z_Q D dA B (some (.int r)) h') args s 0 0 (fun q => B ≤ q)) (F0 m 131 ls []) := by
  have hx := z_hx X
  have hb := z_hb X
  intro v0 v1 v3 v4 v5 v6 v7 v8 v9 v10 v11 h H locs ls hI hl hf
  unfold f_Mod_find_131 at hf
  refine lv_aload_n hx hb d_Mod_find_131 rfl (lv_at hl 0 rfl) ?_
  obtain ⟨x1, ex1, hf⟩ := z_bs hf
  refine z_getF X hI (k := 55) (ci := 12) (gI_s ex1) i_Mod rfl (by decide) wf_Mod_296 d_Mod_find_132 ?_
  refine lv_iconst (v := 1) hx hb d_Mod_find_135 (by decide) ?_
  refine lv_icmp_ne (tgt := 142) hx hb d_Mod_find_136 (by decide) (fun c2 => ?_) (fun c2 => ?_)
  · rw [if_neg c2] at hf
    obtain ⟨x3, ex3, hf⟩ := z_bs hf
    refine lv_iinc (v := x3) (lv' := [(11, .int x3), (0, .ref v0), (1, .int v1), (3, .int v3), (4, .int v4), (5, .int v5), (6, .int v6), (7, .int v7), (8, .int v8), (9, .int v9), (10, .int v10)]) hx hb d_Mod_find_142 hl (k := 10) rfl (by rw [← Option.some.inj ex3]; rfl) (by decide) rfl (fun ls hl => ?_)
    refine lv_goto (tgt := 61) hx hb d_Mod_find_145 (by decide) ?_
    exact hk61 v0 v1 v3 v4 v5 v6 v7 v8 v9 v10 x3 h _ _ _ hI (lv_sub hl [1, 2, 3, 4, 5, 6, 7, 8, 9, 10, 0] rfl) hf
  · rw [if_pos c2] at hf
    refine lv_iconst (v := 0) hx hb d_Mod_find_139 (by decide) ?_
    refine lv_istore (lv' := [(8, .int 0), (0, .ref v0), (1, .int v1), (3, .int v3), (4, .int v4), (5, .int v5), (6, .int v6), (7, .int v7), (9, .int v9), (10, .int v10), (11, .int v11)]) hx hb d_Mod_find_140 hl (by decide) rfl (fun ls hl => ?_)
    obtain ⟨x4, ex4, hf⟩ := z_bs hf
    refine lv_iinc (v := x4) (lv' := [(11, .int x4), (8, .int 0), (0, .ref v0), (1, .int v1), (3, .int v3), (4, .int v4), (5, .int v5), (6, .int v6), (7, .int v7), (9, .int v9), (10, .int v10)]) hx hb d_Mod_find_142 hl (k := 10) rfl (by rw [← Option.some.inj ex4]; rfl) (by decide) rfl (fun ls hl => ?_)
    refine lv_goto (tgt := 61) hx hb d_Mod_find_145 (by decide) ?_
    exact hk61 v0 v1 v3 v4 v5 v6 v7 0 v9 v10 x4 h _ _ _ hI (lv_sub hl [2, 3, 4, 5, 6, 7, 8, 1, 9, 10, 0] rfl) hf
def f_Mod_find_121 (N : Nat) (k9 : Nat → Int32 → Int32 → Int32 → z_H → Option (Int32 × z_H)) (k33 : Nat → Int32 → Int32 → Int32 → Int32 → Int32 → Int32 → Int32 → Int32 → z_H → Option (Int32 × z_H)) (k61 : Nat → Int32 → Int32 → Int32 → Int32 → Int32 → Int32 → Int32 → Int32 → Int32 → Int32 → z_H → Option (Int32 × z_H)) (v0 : Nat) (v1 : Int32) (v3 : Int32) (v4 : Int32) (v5 : Int32) (v6 : Int32) (v7 : Int32) (v8 : Int32) (v9 : Int32) (v10 : Int32) (v11 : Int32) (h : z_H) : Option (Int32 × z_H) :=
  z_b (gI h v0 12 55) fun x1 =>
  if x1 ≤ 0 then
  (f_Mod_find_131 N k9 k33 k61 v0 v1 v3 v4 v5 v6 v7 v8 v9 v10 v11 h)
  else
  (f_Mod_find_131 N k9 k33 k61 v0 v1 v3 v4 v5 v6 v7 v8 v9 0 v11 h)
set_option maxRecDepth 20000 in
set_option maxHeartbeats 2000000 in
theorem s_Mod_find_121 (X : z_X p s m args meth c prog_14_method_41_code 13 (some .boolean) Ts "StreamForgeModel" D dA B) {N : Nat} {r : Int32} {h' : z_H} {k9 : Nat → Int32 → Int32 → Int32 → z_H → Option (Int32 × z_H)} {k33 : Nat → Int32 → Int32 → Int32 → Int32 → Int32 → Int32 → Int32 → Int32 → z_H → Option (Int32 × z_H)} {k61 : Nat → Int32 → Int32 → Int32 → Int32 → Int32 → Int32 → Int32 → Int32 → Int32 → Int32 → z_H → Option (Int32 × z_H)} (hk9 : ∀ (v0 : Nat) (v1 : Int32) (v3 : Int32) (v4 : Int32) (h : z_H) (H : Heap) (locs : List Loc) (ls : Array Slot), z_I D dA B h s.heap H locs → lv_has ls 13 [(0, .ref v0), (1, .int v1), (3, .int v3), (4, .int v4)] → k9 v0 v1 v3 v4 h = some (r, h') → W p l e (z_rm 2 54) s m args below meth c H locs 0 0 (MQ below (z_Q D dA B (some (.int r)) h') args s 0 0 (fun q => B ≤ q)) (F0 m 9 ls [])) (hk33 : ∀ (v0 : Nat) (v1 : Int32) (v3 : Int32) (v4 : Int32) (v5 : Int32) (v6 : Int32) (v7 : Int32) (v8 : Int32) (v9 : Int32) (h : z_H) (H : Heap) (locs : List Loc) (ls : Array Slot), z_I D dA B h s.heap H locs → lv_has ls 13 [(0, .ref v0), (1, .int v1), (3, .int v3), (4, .int v4), (5, .int v5), (6, .int v6), (7, .int v7), (8, .int v8), (9, .int v9)] → k33 v0 v1 v3 v4 v5 v6 v7 v8 v9 h = some (r, h') → W p l e (z_rm 2 54) s m args below meth c H locs 0 0 (MQ below (z_Q D dA B (some (.int r)) h') args s 0 0 (fun q => B ≤ q)) (F0 m 33 ls [])) (hk61 : ∀ (v0 : Nat) (v1 : Int32) (v3 : Int32) (v4 : Int32) (v5 : Int32) (v6 : Int32) (v7 : Int32) (v8 : Int32) (v9 : Int32) (v10 : Int32) (v11 : Int32) (h : z_H) (H : Heap) (locs : List Loc) (ls : Array Slot), z_I D dA B h s.heap H locs → lv_has ls 13 [(0, .ref v0), (1, .int v1), (3, .int v3), (4, .int v4), (5, .int v5), (6, .int v6), (7, .int v7), (8, .int v8), (9, .int v9), (10, .int v10), (11, .int v11)] → k61 v0 v1 v3 v4 v5 v6 v7 v8 v9 v10 v11 h = some (r, h') → W p l e (z_rm 2 54) s m args below meth c H locs 0 0 (MQ below (z_Q D dA B (some (.int r)) h') args s 0 0 (fun q => B ≤ q)) (F0 m 61 ls [])) : ∀ (v0 : Nat) (v1 : Int32) (v3 : Int32) (v4 : Int32) (v5 : Int32) (v6 : Int32) (v7 : Int32) (v8 : Int32) (v9 : Int32) (v10 : Int32) (v11 : Int32) (h : z_H) (H : Heap) (locs : List Loc) (ls : Array Slot), z_I D dA B h s.heap H locs → lv_has ls 13 [(0, .ref v0), (1, .int v1), (3, .int v3), (4, .int v4), (5, .int v5), (6, .int v6), (7, .int v7), (8, .int v8), (9, .int v9), (10, .int v10), (11, .int v11)] → f_Mod_find_121 N k9 k33 k61 v0 v1 v3 v4 v5 v6 v7 v8 v9 v10 v11 h = some (r, h') → W p l e (z_rm 2 54) s m args below meth c H locs 0 0 (MQ below (z_Q D dA B (some (.int r)) h') args s 0 0 (fun q => B ≤ q)) (F0 m 121 ls []) := by
  have hx := z_hx X
  have hb := z_hb X
  intro v0 v1 v3 v4 v5 v6 v7 v8 v9 v10 v11 h H locs ls hI hl hf
  unfold f_Mod_find_121 at hf
  refine lv_aload_n hx hb d_Mod_find_121 rfl (lv_at hl 0 rfl) ?_
  obtain ⟨x1, ex1, hf⟩ := z_bs hf
  refine z_getF X hI (k := 55) (ci := 12) (gI_s ex1) i_Mod rfl (by decide) wf_Mod_296 d_Mod_find_122 ?_
  refine lv_if_le (tgt := 131) hx hb d_Mod_find_125 (by decide) (fun c2 => ?_) (fun c2 => ?_)
  · rw [if_pos c2] at hf
    exact s_Mod_find_131 X hk9 hk33 hk61 v0 v1 v3 v4 v5 v6 v7 v8 v9 v10 v11 h _ _ _ hI (lv_sub hl [0, 1, 2, 3, 4, 5, 6, 7, 8, 9, 10] rfl) hf
  · rw [if_neg c2] at hf
    refine lv_iconst (v := 0) hx hb d_Mod_find_128 (by decide) ?_
    refine lv_istore (lv' := [(10, .int 0), (0, .ref v0), (1, .int v1), (3, .int v3), (4, .int v4), (5, .int v5), (6, .int v6), (7, .int v7), (8, .int v8), (9, .int v9), (11, .int v11)]) hx hb d_Mod_find_129 hl (by decide) rfl (fun ls hl => ?_)
    exact s_Mod_find_131 X hk9 hk33 hk61 v0 v1 v3 v4 v5 v6 v7 v8 v9 0 v11 h _ _ _ hI (lv_sub hl [1, 2, 3, 4, 5, 6, 7, 8, 9, 0, 10] rfl) hf
def f_Mod_find_76 (N : Nat) (k9 : Nat → Int32 → Int32 → Int32 → z_H → Option (Int32 × z_H)) (k33 : Nat → Int32 → Int32 → Int32 → Int32 → Int32 → Int32 → Int32 → Int32 → z_H → Option (Int32 × z_H)) (k61 : Nat → Int32 → Int32 → Int32 → Int32 → Int32 → Int32 → Int32 → Int32 → Int32 → Int32 → z_H → Option (Int32 × z_H)) (v0 : Nat) (v1 : Int32) (v3 : Int32) (v4 : Int32) (v5 : Int32) (v6 : Int32) (v7 : Int32) (v8 : Int32) (v9 : Int32) (v10 : Int32) (v11 : Int32) (s0 : Int32) (s1 : Int32) (h : z_H) : Option (Int32 × z_H) :=
  if s1 < s0 then
  (z_b (some (v9 + 1)) fun x2 =>
  k33 v0 v1 v3 v4 v5 v6 v7 v8 x2 h)
  else
  (if v10 = 0 then
  (z_b (some (v9 + 1)) fun x4 =>
  k33 v0 v1 v3 v4 v5 v6 v7 v8 x4 h)
  else
  (z_b (gO h v0 12) fun u5 =>
  z_b (f_Mod_way N v0 v1 v4 v9 v11 h) fun r6 =>
  z_b (some (r6.1)) fun x7 =>
  if x7 < v5 then
  (f_Mod_find_121 N k9 k33 k61 v0 v1 v3 v4 v5 v6 v7 v8 v9 v10 v11 r6.2)
  else
  (if x7 < 0 then
  (f_Mod_find_121 N k9 k33 k61 v0 v1 v3 v4 v5 v6 v7 v8 v9 v10 v11 r6.2)
  else
  (f_Mod_find_121 N k9 k33 k61 v0 v1 v3 v4 x7 v9 v11 v8 v9 v10 v11 r6.2))))
set_option maxRecDepth 20000 in
set_option maxHeartbeats 2000000 in
theorem s_Mod_find_76 (X : z_X p s m args meth c prog_14_method_41_code 13 (some .boolean) Ts "StreamForgeModel" D dA B) {N : Nat} {r : Int32} {h' : z_H} {k9 : Nat → Int32 → Int32 → Int32 → z_H → Option (Int32 × z_H)} {k33 : Nat → Int32 → Int32 → Int32 → Int32 → Int32 → Int32 → Int32 → Int32 → z_H → Option (Int32 × z_H)} {k61 : Nat → Int32 → Int32 → Int32 → Int32 → Int32 → Int32 → Int32 → Int32 → Int32 → Int32 → z_H → Option (Int32 × z_H)} (hk9 : ∀ (v0 : Nat) (v1 : Int32) (v3 : Int32) (v4 : Int32) (h : z_H) (H : Heap) (locs : List Loc) (ls : Array Slot), z_I D dA B h s.heap H locs → lv_has ls 13 [(0, .ref v0), (1, .int v1), (3, .int v3), (4, .int v4)] → k9 v0 v1 v3 v4 h = some (r, h') → W p l e (z_rm 2 54) s m args below meth c H locs 0 0 (MQ below (z_Q D dA B (some (.int r)) h') args s 0 0 (fun q => B ≤ q)) (F0 m 9 ls [])) (hk33 : ∀ (v0 : Nat) (v1 : Int32) (v3 : Int32) (v4 : Int32) (v5 : Int32) (v6 : Int32) (v7 : Int32) (v8 : Int32) (v9 : Int32) (h : z_H) (H : Heap) (locs : List Loc) (ls : Array Slot), z_I D dA B h s.heap H locs → lv_has ls 13 [(0, .ref v0), (1, .int v1), (3, .int v3), (4, .int v4), (5, .int v5), (6, .int v6), (7, .int v7), (8, .int v8), (9, .int v9)] → k33 v0 v1 v3 v4 v5 v6 v7 v8 v9 h = some (r, h') → W p l e (z_rm 2 54) s m args below meth c H locs 0 0 (MQ below (z_Q D dA B (some (.int r)) h') args s 0 0 (fun q => B ≤ q)) (F0 m 33 ls [])) (hk61 : ∀ (v0 : Nat) (v1 : Int32) (v3 : Int32) (v4 : Int32) (v5 : Int32) (v6 : Int32) (v7 : Int32) (v8 : Int32) (v9 : Int32) (v10 : Int32) (v11 : Int32) (h : z_H) (H : Heap) (locs : List Loc) (ls : Array Slot), z_I D dA B h s.heap H locs → lv_has ls 13 [(0, .ref v0), (1, .int v1), (3, .int v3), (4, .int v4), (5, .int v5), (6, .int v6), (7, .int v7), (8, .int v8), (9, .int v9), (10, .int v10), (11, .int v11)] → k61 v0 v1 v3 v4 v5 v6 v7 v8 v9 v10 v11 h = some (r, h') → W p l e (z_rm 2 54) s m args below meth c H locs 0 0 (MQ below (z_Q D dA B (some (.int r)) h') args s 0 0 (fun q => B ≤ q)) (F0 m 61 ls [])) : ∀ (v0 : Nat) (v1 : Int32) (v3 : Int32) (v4 : Int32) (v5 : Int32) (v6 : Int32) (v7 : Int32) (v8 : Int32) (v9 : Int32) (v10 : Int32) (v11 : Int32) (s0 : Int32) (s1 : Int32) (h : z_H) (H : Heap) (locs : List Loc) (ls : Array Slot), z_I D dA B h s.heap H locs → lv_has ls 13 [(0, .ref v0), (1, .int v1), (3, .int v3), (4, .int v4), (5, .int v5), (6, .int v6), (7, .int v7), (8, .int v8), (9, .int v9), (10, .int v10), (11, .int v11)] → f_Mod_find_76 N k9 k33 k61 v0 v1 v3 v4 v5 v6 v7 v8 v9 v10 v11 s0 s1 h = some (r, h') → W p l e (z_rm 2 54) s m args below meth c H locs 0 0 (MQ below (z_Q D dA B (some (.int r)) h') args s 0 0 (fun q => B ≤ q)) (F0 m 76 ls [.int s1, .int s0]) := by
  have hx := z_hx X
  have hb := z_hb X
  intro v0 v1 v3 v4 v5 v6 v7 v8 v9 v10 v11 s0 s1 h H locs ls hI hl hf
  unfold f_Mod_find_76 at hf
  refine lv_icmp_gt (tgt := 148) hx hb d_Mod_find_76 (by decide) (fun c1 => ?_) (fun c1 => ?_)
  · rw [if_pos c1] at hf
    obtain ⟨x2, ex2, hf⟩ := z_bs hf
    refine lv_iinc (v := x2) (lv' := [(9, .int x2), (0, .ref v0), (1, .int v1), (3, .int v3), (4, .int v4), (5, .int v5), (6, .int v6), (7, .int v7), (8, .int v8), (10, .int v10), (11, .int v11)]) hx hb d_Mod_find_148 hl (k := 8) rfl (by rw [← Option.some.inj ex2]; rfl) (by decide) rfl (fun ls hl => ?_)
    refine lv_goto (tgt := 33) hx hb d_Mod_find_151 (by decide) ?_
    exact hk33 v0 v1 v3 v4 v5 v6 v7 v8 x2 h _ _ _ hI (lv_sub hl [1, 2, 3, 4, 5, 6, 7, 8, 0] rfl) hf
  · rw [if_neg c1] at hf
    refine lv_iload hx hb d_Mod_find_79 (lv_at hl 9 rfl) ?_
    refine lv_if_eq (tgt := 148) hx hb d_Mod_find_81 (by decide) (fun c3 => ?_) (fun c3 => ?_)
    · rw [if_pos c3] at hf
      obtain ⟨x4, ex4, hf⟩ := z_bs hf
      refine lv_iinc (v := x4) (lv' := [(9, .int x4), (0, .ref v0), (1, .int v1), (3, .int v3), (4, .int v4), (5, .int v5), (6, .int v6), (7, .int v7), (8, .int v8), (10, .int v10), (11, .int v11)]) hx hb d_Mod_find_148 hl (k := 8) rfl (by rw [← Option.some.inj ex4]; rfl) (by decide) rfl (fun ls hl => ?_)
      refine lv_goto (tgt := 33) hx hb d_Mod_find_151 (by decide) ?_
      exact hk33 v0 v1 v3 v4 v5 v6 v7 v8 x4 h _ _ _ hI (lv_sub hl [1, 2, 3, 4, 5, 6, 7, 8, 0] rfl) hf
    · rw [if_neg c3] at hf
      refine lv_aload_n hx hb d_Mod_find_84 rfl (lv_at hl 0 rfl) ?_
      refine lv_iload_n hx hb d_Mod_find_85 rfl (lv_at hl 1 rfl) ?_
      refine lv_iload hx hb d_Mod_find_86 (lv_at hl 3 rfl) ?_
      refine lv_iload hx hb d_Mod_find_88 (lv_at hl 8 rfl) ?_
      refine lv_iload hx hb d_Mod_find_90 (lv_at hl 10 rfl) ?_
      obtain ⟨u5, eu5, hf⟩ := z_bs hf
      obtain ⟨r6, er6, hf⟩ := z_bs hf
      refine z_callV (As := [.int v1, .int v4, .int v9, .int v11]) (rest := []) (r := (some (.int r6.1))) (h' := r6.2) X hI eu5 (s_Mod_way er6) rfl rfl wm_Mod_309 yi_Mod_way rfl hl.1 rfl (Nat.le_of_ble_eq_true rfl) (by decide) (by decide) d_Mod_find_92 (fun H locs hI => ?_)
      refine W.eq (g2 := F0 m 95 ls [.int (r6.1)]) rfl ?_
      obtain ⟨x7, ex7, hf⟩ := z_bs hf
      refine z_topi (Option.some.inj ex7) ?_
      refine lv_istore (lv' := [(12, .int x7), (0, .ref v0), (1, .int v1), (3, .int v3), (4, .int v4), (5, .int v5), (6, .int v6), (7, .int v7), (8, .int v8), (9, .int v9), (10, .int v10), (11, .int v11)]) hx hb d_Mod_find_95 hl (by decide) rfl (fun ls hl => ?_)
      refine lv_iload hx hb d_Mod_find_97 (lv_at hl 0 rfl) ?_
      refine lv_iload hx hb d_Mod_find_99 (lv_at hl 5 rfl) ?_
      refine lv_icmp_lt (tgt := 121) hx hb d_Mod_find_101 (by decide) (fun c8 => ?_) (fun c8 => ?_)
      · rw [if_pos c8] at hf
        exact s_Mod_find_121 X hk9 hk33 hk61 v0 v1 v3 v4 v5 v6 v7 v8 v9 v10 v11 r6.2 _ _ _ hI (lv_sub hl [1, 2, 3, 4, 5, 6, 7, 8, 9, 10, 11] rfl) hf
      · rw [if_neg c8] at hf
        refine lv_iload hx hb d_Mod_find_104 (lv_at hl 0 rfl) ?_
        refine lv_if_lt (tgt := 121) hx hb d_Mod_find_106 (by decide) (fun c9 => ?_) (fun c9 => ?_)
        · rw [if_pos c9] at hf
          exact s_Mod_find_121 X hk9 hk33 hk61 v0 v1 v3 v4 v5 v6 v7 v8 v9 v10 v11 r6.2 _ _ _ hI (lv_sub hl [1, 2, 3, 4, 5, 6, 7, 8, 9, 10, 11] rfl) hf
        · rw [if_neg c9] at hf
          refine lv_iload hx hb d_Mod_find_109 (lv_at hl 0 rfl) ?_
          refine lv_istore (lv' := [(5, .int x7), (12, .int x7), (0, .ref v0), (1, .int v1), (3, .int v3), (4, .int v4), (6, .int v6), (7, .int v7), (8, .int v8), (9, .int v9), (10, .int v10), (11, .int v11)]) hx hb d_Mod_find_111 hl (by decide) rfl (fun ls hl => ?_)
          refine lv_iload hx hb d_Mod_find_113 (lv_at hl 9 rfl) ?_
          refine lv_istore (lv' := [(6, .int v9), (5, .int x7), (12, .int x7), (0, .ref v0), (1, .int v1), (3, .int v3), (4, .int v4), (7, .int v7), (8, .int v8), (9, .int v9), (10, .int v10), (11, .int v11)]) hx hb d_Mod_find_115 hl (by decide) rfl (fun ls hl => ?_)
          refine lv_iload hx hb d_Mod_find_117 (lv_at hl 11 rfl) ?_
          refine lv_istore (lv' := [(7, .int v11), (6, .int v9), (5, .int x7), (12, .int x7), (0, .ref v0), (1, .int v1), (3, .int v3), (4, .int v4), (8, .int v8), (9, .int v9), (10, .int v10), (11, .int v11)]) hx hb d_Mod_find_119 hl (by decide) rfl (fun ls hl => ?_)
          exact s_Mod_find_121 X hk9 hk33 hk61 v0 v1 v3 v4 x7 v9 v11 v8 v9 v10 v11 r6.2 _ _ _ hI (lv_sub hl [4, 5, 6, 7, 2, 1, 0, 8, 9, 10, 11] rfl) hf
def f_Mod_find_61 (N : Nat) (k9 : Nat → Int32 → Int32 → Int32 → z_H → Option (Int32 × z_H)) (k33 : Nat → Int32 → Int32 → Int32 → Int32 → Int32 → Int32 → Int32 → Int32 → z_H → Option (Int32 × z_H)) : Nat → Nat → Int32 → Int32 → Int32 → Int32 → Int32 → Int32 → Int32 → Int32 → Int32 → Int32 → z_H → Option (Int32 × z_H)
  | 0, _, _, _, _, _, _, _, _, _, _, _, _ => none
  | n + 1, v0, v1, v3, v4, v5, v6, v7, v8, v9, v10, v11, h =>
    if v3 ≤ 1 then
    (f_Mod_find_76 N k9 k33 (f_Mod_find_61 N k9 k33 n) v0 v1 v3 v4 v5 v6 v7 v8 v9 v10 v11 v11 0 h)
    else
    (z_b (gI h v0 12 54) fun x2 =>
    f_Mod_find_76 N k9 k33 (f_Mod_find_61 N k9 k33 n) v0 v1 v3 v4 v5 v6 v7 v8 v9 v10 v11 v11 x2 h)
set_option maxRecDepth 20000 in
set_option maxHeartbeats 2000000 in
theorem s_Mod_find_61 (X : z_X p s m args meth c prog_14_method_41_code 13 (some .boolean) Ts "StreamForgeModel" D dA B) {N : Nat} {r : Int32} {h' : z_H} {k9 : Nat → Int32 → Int32 → Int32 → z_H → Option (Int32 × z_H)} {k33 : Nat → Int32 → Int32 → Int32 → Int32 → Int32 → Int32 → Int32 → Int32 → z_H → Option (Int32 × z_H)} (hk9 : ∀ (v0 : Nat) (v1 : Int32) (v3 : Int32) (v4 : Int32) (h : z_H) (H : Heap) (locs : List Loc) (ls : Array Slot), z_I D dA B h s.heap H locs → lv_has ls 13 [(0, .ref v0), (1, .int v1), (3, .int v3), (4, .int v4)] → k9 v0 v1 v3 v4 h = some (r, h') → W p l e (z_rm 2 54) s m args below meth c H locs 0 0 (MQ below (z_Q D dA B (some (.int r)) h') args s 0 0 (fun q => B ≤ q)) (F0 m 9 ls [])) (hk33 : ∀ (v0 : Nat) (v1 : Int32) (v3 : Int32) (v4 : Int32) (v5 : Int32) (v6 : Int32) (v7 : Int32) (v8 : Int32) (v9 : Int32) (h : z_H) (H : Heap) (locs : List Loc) (ls : Array Slot), z_I D dA B h s.heap H locs → lv_has ls 13 [(0, .ref v0), (1, .int v1), (3, .int v3), (4, .int v4), (5, .int v5), (6, .int v6), (7, .int v7), (8, .int v8), (9, .int v9)] → k33 v0 v1 v3 v4 v5 v6 v7 v8 v9 h = some (r, h') → W p l e (z_rm 2 54) s m args below meth c H locs 0 0 (MQ below (z_Q D dA B (some (.int r)) h') args s 0 0 (fun q => B ≤ q)) (F0 m 33 ls [])) : ∀ n : Nat, ∀ (v0 : Nat) (v1 : Int32) (v3 : Int32) (v4 : Int32) (v5 : Int32) (v6 : Int32) (v7 : Int32) (v8 : Int32) (v9 : Int32) (v10 : Int32) (v11 : Int32) (h : z_H) (H : Heap) (locs : List Loc) (ls : Array Slot), z_I D dA B h s.heap H locs → lv_has ls 13 [(0, .ref v0), (1, .int v1), (3, .int v3), (4, .int v4), (5, .int v5), (6, .int v6), (7, .int v7), (8, .int v8), (9, .int v9), (10, .int v10), (11, .int v11)] → f_Mod_find_61 N k9 k33 n v0 v1 v3 v4 v5 v6 v7 v8 v9 v10 v11 h = some (r, h') → W p l e (z_rm 2 54) s m args below meth c H locs 0 0 (MQ below (z_Q D dA B (some (.int r)) h') args s 0 0 (fun q => B ≤ q)) (F0 m 61 ls []) := by
  have hx := z_hx X
  have hb := z_hb X
  intro n
  induction n with
  | zero => intro v0 v1 v3 v4 v5 v6 v7 v8 v9 v10 v11 h H locs ls hI hl hf; rw [f_Mod_find_61] at hf; cases hf
  | succ n ih =>
    intro v0 v1 v3 v4 v5 v6 v7 v8 v9 v10 v11 h H locs ls hI hl hf
    rw [f_Mod_find_61] at hf
    refine lv_iload hx hb d_Mod_find_61 (lv_at hl 10 rfl) ?_
    refine lv_iload_n hx hb d_Mod_find_63 rfl (lv_at hl 2 rfl) ?_
    refine lv_iconst (v := 1) hx hb d_Mod_find_64 (by decide) ?_
    refine lv_icmp_le (tgt := 75) hx hb d_Mod_find_65 (by decide) (fun c1 => ?_) (fun c1 => ?_)
    · rw [if_pos c1] at hf
      refine lv_iconst (v := 0) hx hb d_Mod_find_75 (by decide) ?_
      exact s_Mod_find_76 X hk9 hk33 ih v0 v1 v3 v4 v5 v6 v7 v8 v9 v10 v11 v11 0 h _ _ _ hI (lv_sub hl [0, 1, 2, 3, 4, 5, 6, 7, 8, 9, 10] rfl) hf
    · rw [if_neg c1] at hf
      refine lv_aload_n hx hb d_Mod_find_68 rfl (lv_at hl 0 rfl) ?_
      obtain ⟨x2, ex2, hf⟩ := z_bs hf
      refine z_getF X hI (k := 54) (ci := 12) (gI_s ex2) i_Mod rfl (by decide) wf_Mod_299 d_Mod_find_69 ?_
      refine lv_goto (tgt := 76) hx hb d_Mod_find_72 (by decide) ?_
      exact s_Mod_find_76 X hk9 hk33 ih v0 v1 v3 v4 v5 v6 v7 v8 v9 v10 v11 v11 x2 h _ _ _ hI (lv_sub hl [0, 1, 2, 3, 4, 5, 6, 7, 8, 9, 10] rfl) hf
def f_Mod_find_154 (N : Nat) (k9 : Nat → Int32 → Int32 → Int32 → z_H → Option (Int32 × z_H)) (v0 : Nat) (v1 : Int32) (v3 : Int32) (v4 : Int32) (v5 : Int32) (v6 : Int32) (v7 : Int32) (h : z_H) : Option (Int32 × z_H) :=
  if 0 ≤ v5 then
  (z_b (sF h v0 12 56 (.int v4)) fun h2 =>
  z_b (gO h2 v0 12) fun u3 =>
  z_b (f_Mod_way N v0 v1 v4 v6 v7 h2) fun r4 =>
  z_b (sF r4.2 v0 12 57 (.int (r4.1))) fun h5 =>
  some (1, h5))
  else
  (z_b (some (v4 + 1)) fun x6 =>
  k9 v0 v1 v3 x6 h)
set_option maxRecDepth 20000 in
set_option maxHeartbeats 2000000 in
theorem s_Mod_find_154 (X : z_X p s m args meth c prog_14_method_41_code 13 (some .boolean) Ts "StreamForgeModel" D dA B) {N : Nat} {r : Int32} {h' : z_H} {k9 : Nat → Int32 → Int32 → Int32 → z_H → Option (Int32 × z_H)} (hk9 : ∀ (v0 : Nat) (v1 : Int32) (v3 : Int32) (v4 : Int32) (h : z_H) (H : Heap) (locs : List Loc) (ls : Array Slot), z_I D dA B h s.heap H locs → lv_has ls 13 [(0, .ref v0), (1, .int v1), (3, .int v3), (4, .int v4)] → k9 v0 v1 v3 v4 h = some (r, h') → W p l e (z_rm 2 54) s m args below meth c H locs 0 0 (MQ below (z_Q D dA B (some (.int r)) h') args s 0 0 (fun q => B ≤ q)) (F0 m 9 ls [])) : ∀ (v0 : Nat) (v1 : Int32) (v3 : Int32) (v4 : Int32) (v5 : Int32) (v6 : Int32) (v7 : Int32) (h : z_H) (H : Heap) (locs : List Loc) (ls : Array Slot), z_I D dA B h s.heap H locs → lv_has ls 13 [(0, .ref v0), (1, .int v1), (3, .int v3), (4, .int v4), (5, .int v5), (6, .int v6), (7, .int v7)] → f_Mod_find_154 N k9 v0 v1 v3 v4 v5 v6 v7 h = some (r, h') → W p l e (z_rm 2 54) s m args below meth c H locs 0 0 (MQ below (z_Q D dA B (some (.int r)) h') args s 0 0 (fun q => B ≤ q)) (F0 m 154 ls []) := by
  have hx := z_hx X
  have hb := z_hb X
  intro v0 v1 v3 v4 v5 v6 v7 h H locs ls hI hl hf
  unfold f_Mod_find_154 at hf
  refine lv_iload hx hb d_Mod_find_154 (lv_at hl 4 rfl) ?_
  refine lv_if_ge (tgt := 162) hx hb d_Mod_find_156 (by decide) (fun c1 => ?_) (fun c1 => ?_)
  · rw [if_pos c1] at hf
    refine lv_aload_n hx hb d_Mod_find_162 rfl (lv_at hl 0 rfl) ?_
    refine lv_iload hx hb d_Mod_find_163 (lv_at hl 3 rfl) ?_
    obtain ⟨h2, eh2, hf⟩ := z_bs hf
    refine z_putF X hI (k := 56) (ci := 12) (ty0 := t_Mod) eh2 i_Mod t_Mod_ok n_Mod rfl (by decide) wf_Mod_313 rfl rfl rfl d_Mod_find_165 (fun H locs hI => ?_)
    refine lv_aload_n hx hb d_Mod_find_168 rfl (lv_at hl 0 rfl) ?_
    refine lv_aload_n hx hb d_Mod_find_169 rfl (lv_at hl 0 rfl) ?_
    refine lv_iload_n hx hb d_Mod_find_170 rfl (lv_at hl 1 rfl) ?_
    refine lv_iload hx hb d_Mod_find_171 (lv_at hl 3 rfl) ?_
    refine lv_iload hx hb d_Mod_find_173 (lv_at hl 5 rfl) ?_
    refine lv_iload hx hb d_Mod_find_175 (lv_at hl 6 rfl) ?_
    obtain ⟨u3, eu3, hf⟩ := z_bs hf
    obtain ⟨r4, er4, hf⟩ := z_bs hf
    refine z_callV (As := [.int v1, .int v4, .int v6, .int v7]) (rest := [.ref v0]) (r := (some (.int r4.1))) (h' := r4.2) X hI eu3 (s_Mod_way er4) rfl rfl wm_Mod_309 yi_Mod_way rfl hl.1 rfl (Nat.le_of_ble_eq_true rfl) (by decide) (by decide) d_Mod_find_177 (fun H locs hI => ?_)
    refine W.eq (g2 := F0 m 180 ls [.int (r4.1), .ref v0]) rfl ?_
    obtain ⟨h5, eh5, hf⟩ := z_bs hf
    refine z_putF X hI (k := 57) (ci := 12) (ty0 := t_Mod) eh5 i_Mod t_Mod_ok n_Mod rfl (by decide) wf_Mod_316 rfl rfl rfl d_Mod_find_180 (fun H locs hI => ?_)
    refine lv_iconst (v := 1) hx hb d_Mod_find_183 (by decide) ?_
    cases hf
    exact z_zret X hI (Or.inr rfl) d_Mod_find_184
  · rw [if_neg c1] at hf
    refine lv_goto (tgt := 185) hx hb d_Mod_find_159 (by decide) ?_
    obtain ⟨x6, ex6, hf⟩ := z_bs hf
    refine lv_iinc (v := x6) (lv' := [(4, .int x6), (0, .ref v0), (1, .int v1), (3, .int v3), (5, .int v5), (6, .int v6), (7, .int v7)]) hx hb d_Mod_find_185 hl (k := 3) rfl (by rw [← Option.some.inj ex6]; rfl) (by decide) rfl (fun ls hl => ?_)
    refine lv_goto (tgt := 9) hx hb d_Mod_find_188 (by decide) ?_
    exact hk9 v0 v1 v3 x6 h _ _ _ hI (lv_sub hl [1, 2, 3, 0] rfl) hf
def f_Mod_find_47 (N : Nat) (k9 : Nat → Int32 → Int32 → Int32 → z_H → Option (Int32 × z_H)) (k33 : Nat → Int32 → Int32 → Int32 → Int32 → Int32 → Int32 → Int32 → Int32 → z_H → Option (Int32 × z_H)) (v0 : Nat) (v1 : Int32) (v3 : Int32) (v4 : Int32) (v5 : Int32) (v6 : Int32) (v7 : Int32) (v8 : Int32) (v9 : Int32) (s0 : Int32) (s1 : Int32) (h : z_H) : Option (Int32 × z_H) :=
  if s1 < s0 then
  (f_Mod_find_154 N k9 v0 v1 v3 v4 v5 v6 v7 h)
  else
  (if v8 = 0 then
  (f_Mod_find_154 N k9 v0 v1 v3 v4 v5 v6 v7 h)
  else
  (f_Mod_find_61 N k9 k33 N v0 v1 v3 v4 v5 v6 v7 v8 v9 1 0 h))
set_option maxRecDepth 20000 in
set_option maxHeartbeats 2000000 in
theorem s_Mod_find_47 (X : z_X p s m args meth c prog_14_method_41_code 13 (some .boolean) Ts "StreamForgeModel" D dA B) {N : Nat} {r : Int32} {h' : z_H} {k9 : Nat → Int32 → Int32 → Int32 → z_H → Option (Int32 × z_H)} {k33 : Nat → Int32 → Int32 → Int32 → Int32 → Int32 → Int32 → Int32 → Int32 → z_H → Option (Int32 × z_H)} (hk9 : ∀ (v0 : Nat) (v1 : Int32) (v3 : Int32) (v4 : Int32) (h : z_H) (H : Heap) (locs : List Loc) (ls : Array Slot), z_I D dA B h s.heap H locs → lv_has ls 13 [(0, .ref v0), (1, .int v1), (3, .int v3), (4, .int v4)] → k9 v0 v1 v3 v4 h = some (r, h') → W p l e (z_rm 2 54) s m args below meth c H locs 0 0 (MQ below (z_Q D dA B (some (.int r)) h') args s 0 0 (fun q => B ≤ q)) (F0 m 9 ls [])) (hk33 : ∀ (v0 : Nat) (v1 : Int32) (v3 : Int32) (v4 : Int32) (v5 : Int32) (v6 : Int32) (v7 : Int32) (v8 : Int32) (v9 : Int32) (h : z_H) (H : Heap) (locs : List Loc) (ls : Array Slot), z_I D dA B h s.heap H locs → lv_has ls 13 [(0, .ref v0), (1, .int v1), (3, .int v3), (4, .int v4), (5, .int v5), (6, .int v6), (7, .int v7), (8, .int v8), (9, .int v9)] → k33 v0 v1 v3 v4 v5 v6 v7 v8 v9 h = some (r, h') → W p l e (z_rm 2 54) s m args below meth c H locs 0 0 (MQ below (z_Q D dA B (some (.int r)) h') args s 0 0 (fun q => B ≤ q)) (F0 m 33 ls [])) : ∀ (v0 : Nat) (v1 : Int32) (v3 : Int32) (v4 : Int32) (v5 : Int32) (v6 : Int32) (v7 : Int32) (v8 : Int32) (v9 : Int32) (s0 : Int32) (s1 : Int32) (h : z_H) (H : Heap) (locs : List Loc) (ls : Array Slot), z_I D dA B h s.heap H locs → lv_has ls 13 [(0, .ref v0), (1, .int v1), (3, .int v3), (4, .int v4), (5, .int v5), (6, .int v6), (7, .int v7), (8, .int v8), (9, .int v9)] → f_Mod_find_47 N k9 k33 v0 v1 v3 v4 v5 v6 v7 v8 v9 s0 s1 h = some (r, h') → W p l e (z_rm 2 54) s m args below meth c H locs 0 0 (MQ below (z_Q D dA B (some (.int r)) h') args s 0 0 (fun q => B ≤ q)) (F0 m 47 ls [.int s1, .int s0]) := by
  have hx := z_hx X
  have hb := z_hb X
  intro v0 v1 v3 v4 v5 v6 v7 v8 v9 s0 s1 h H locs ls hI hl hf
  unfold f_Mod_find_47 at hf
  refine lv_icmp_gt (tgt := 154) hx hb d_Mod_find_47 (by decide) (fun c1 => ?_) (fun c1 => ?_)
  · rw [if_pos c1] at hf
    exact s_Mod_find_154 X hk9 v0 v1 v3 v4 v5 v6 v7 h _ _ _ hI (lv_sub hl [0, 1, 2, 3, 4, 5, 6] rfl) hf
  · rw [if_neg c1] at hf
    refine lv_iload hx hb d_Mod_find_50 (lv_at hl 7 rfl) ?_
    refine lv_if_eq (tgt := 154) hx hb d_Mod_find_52 (by decide) (fun c2 => ?_) (fun c2 => ?_)
    · rw [if_pos c2] at hf
      exact s_Mod_find_154 X hk9 v0 v1 v3 v4 v5 v6 v7 h _ _ _ hI (lv_sub hl [0, 1, 2, 3, 4, 5, 6] rfl) hf
    · rw [if_neg c2] at hf
      refine lv_iconst (v := 1) hx hb d_Mod_find_55 (by decide) ?_
      refine lv_istore (lv' := [(10, .int 1), (0, .ref v0), (1, .int v1), (3, .int v3), (4, .int v4), (5, .int v5), (6, .int v6), (7, .int v7), (8, .int v8), (9, .int v9)]) hx hb d_Mod_find_56 hl (by decide) rfl (fun ls hl => ?_)
      refine lv_iconst (v := 0) hx hb d_Mod_find_58 (by decide) ?_
      refine lv_istore (lv' := [(11, .int 0), (10, .int 1), (0, .ref v0), (1, .int v1), (3, .int v3), (4, .int v4), (5, .int v5), (6, .int v6), (7, .int v7), (8, .int v8), (9, .int v9)]) hx hb d_Mod_find_59 hl (by decide) rfl (fun ls hl => ?_)
      exact s_Mod_find_61 X hk9 hk33 N v0 v1 v3 v4 v5 v6 v7 v8 v9 1 0 h _ _ _ hI (lv_sub hl [2, 3, 4, 5, 6, 7, 8, 9, 10, 1, 0] rfl) hf
def f_Mod_find_33 (N : Nat) (k9 : Nat → Int32 → Int32 → Int32 → z_H → Option (Int32 × z_H)) : Nat → Nat → Int32 → Int32 → Int32 → Int32 → Int32 → Int32 → Int32 → Int32 → z_H → Option (Int32 × z_H)
  | 0, _, _, _, _, _, _, _, _, _, _ => none
  | n + 1, v0, v1, v3, v4, v5, v6, v7, v8, v9, h =>
    if v3 ≤ 0 then
    (f_Mod_find_47 N k9 (f_Mod_find_33 N k9 n) v0 v1 v3 v4 v5 v6 v7 v8 v9 v9 0 h)
    else
    (z_b (gI h v0 12 54) fun x2 =>
    f_Mod_find_47 N k9 (f_Mod_find_33 N k9 n) v0 v1 v3 v4 v5 v6 v7 v8 v9 v9 x2 h)
set_option maxRecDepth 20000 in
set_option maxHeartbeats 2000000 in
theorem s_Mod_find_33 (X : z_X p s m args meth c prog_14_method_41_code 13 (some .boolean) Ts "StreamForgeModel" D dA B) {N : Nat} {r : Int32} {h' : z_H} {k9 : Nat → Int32 → Int32 → Int32 → z_H → Option (Int32 × z_H)} (hk9 : ∀ (v0 : Nat) (v1 : Int32) (v3 : Int32) (v4 : Int32) (h : z_H) (H : Heap) (locs : List Loc) (ls : Array Slot), z_I D dA B h s.heap H locs → lv_has ls 13 [(0, .ref v0), (1, .int v1), (3, .int v3), (4, .int v4)] → k9 v0 v1 v3 v4 h = some (r, h') → W p l e (z_rm 2 54) s m args below meth c H locs 0 0 (MQ below (z_Q D dA B (some (.int r)) h') args s 0 0 (fun q => B ≤ q)) (F0 m 9 ls [])) : ∀ n : Nat, ∀ (v0 : Nat) (v1 : Int32) (v3 : Int32) (v4 : Int32) (v5 : Int32) (v6 : Int32) (v7 : Int32) (v8 : Int32) (v9 : Int32) (h : z_H) (H : Heap) (locs : List Loc) (ls : Array Slot), z_I D dA B h s.heap H locs → lv_has ls 13 [(0, .ref v0), (1, .int v1), (3, .int v3), (4, .int v4), (5, .int v5), (6, .int v6), (7, .int v7), (8, .int v8), (9, .int v9)] → f_Mod_find_33 N k9 n v0 v1 v3 v4 v5 v6 v7 v8 v9 h = some (r, h') → W p l e (z_rm 2 54) s m args below meth c H locs 0 0 (MQ below (z_Q D dA B (some (.int r)) h') args s 0 0 (fun q => B ≤ q)) (F0 m 33 ls []) := by
  have hx := z_hx X
  have hb := z_hb X
  intro n
  induction n with
  | zero => intro v0 v1 v3 v4 v5 v6 v7 v8 v9 h H locs ls hI hl hf; rw [f_Mod_find_33] at hf; cases hf
  | succ n ih =>
    intro v0 v1 v3 v4 v5 v6 v7 v8 v9 h H locs ls hI hl hf
    rw [f_Mod_find_33] at hf
    refine lv_iload hx hb d_Mod_find_33 (lv_at hl 8 rfl) ?_
    refine lv_iload_n hx hb d_Mod_find_35 rfl (lv_at hl 2 rfl) ?_
    refine lv_if_le (tgt := 46) hx hb d_Mod_find_36 (by decide) (fun c1 => ?_) (fun c1 => ?_)
    · rw [if_pos c1] at hf
      refine lv_iconst (v := 0) hx hb d_Mod_find_46 (by decide) ?_
      exact s_Mod_find_47 X hk9 ih v0 v1 v3 v4 v5 v6 v7 v8 v9 v9 0 h _ _ _ hI (lv_sub hl [0, 1, 2, 3, 4, 5, 6, 7, 8] rfl) hf
    · rw [if_neg c1] at hf
      refine lv_aload_n hx hb d_Mod_find_39 rfl (lv_at hl 0 rfl) ?_
      obtain ⟨x2, ex2, hf⟩ := z_bs hf
      refine z_getF X hI (k := 54) (ci := 12) (gI_s ex2) i_Mod rfl (by decide) wf_Mod_299 d_Mod_find_40 ?_
      refine lv_goto (tgt := 47) hx hb d_Mod_find_43 (by decide) ?_
      exact s_Mod_find_47 X hk9 ih v0 v1 v3 v4 v5 v6 v7 v8 v9 v9 x2 h _ _ _ hI (lv_sub hl [0, 1, 2, 3, 4, 5, 6, 7, 8] rfl) hf
def f_Mod_find_9 (N : Nat)  : Nat → Nat → Int32 → Int32 → Int32 → z_H → Option (Int32 × z_H)
  | 0, _, _, _, _, _ => none
  | n + 1, v0, v1, v3, v4, h =>
    z_b (gI h v0 12 54) fun x1 =>
    if x1 < v4 then
    (some (0, h))
    else
    (z_b (some ((-1))) fun x3 =>
    f_Mod_find_33 N (f_Mod_find_9 N  n) N v0 v1 v3 v4 x3 0 0 1 0 h)
set_option maxRecDepth 20000 in
set_option maxHeartbeats 2000000 in
theorem s_Mod_find_9 (X : z_X p s m args meth c prog_14_method_41_code 13 (some .boolean) Ts "StreamForgeModel" D dA B) {N : Nat} {r : Int32} {h' : z_H}   : ∀ n : Nat, ∀ (v0 : Nat) (v1 : Int32) (v3 : Int32) (v4 : Int32) (h : z_H) (H : Heap) (locs : List Loc) (ls : Array Slot), z_I D dA B h s.heap H locs → lv_has ls 13 [(0, .ref v0), (1, .int v1), (3, .int v3), (4, .int v4)] → f_Mod_find_9 N  n v0 v1 v3 v4 h = some (r, h') → W p l e (z_rm 2 54) s m args below meth c H locs 0 0 (MQ below (z_Q D dA B (some (.int r)) h') args s 0 0 (fun q => B ≤ q)) (F0 m 9 ls []) := by
  have hx := z_hx X
  have hb := z_hb X
  intro n
  induction n with
  | zero => intro v0 v1 v3 v4 h H locs ls hI hl hf; rw [f_Mod_find_9] at hf; cases hf
  | succ n ih =>
    intro v0 v1 v3 v4 h H locs ls hI hl hf
    rw [f_Mod_find_9] at hf
    refine lv_iload hx hb d_Mod_find_9 (lv_at hl 3 rfl) ?_
    refine lv_aload_n hx hb d_Mod_find_11 rfl (lv_at hl 0 rfl) ?_
    obtain ⟨x1, ex1, hf⟩ := z_bs hf
    refine z_getF X hI (k := 54) (ci := 12) (gI_s ex1) i_Mod rfl (by decide) wf_Mod_299 d_Mod_find_12 ?_
    refine lv_icmp_gt (tgt := 191) hx hb d_Mod_find_15 (by decide) (fun c2 => ?_) (fun c2 => ?_)
    · rw [if_pos c2] at hf
      refine lv_iconst (v := 0) hx hb d_Mod_find_191 (by decide) ?_
      cases hf
      exact z_zret X hI (Or.inl rfl) d_Mod_find_192
    · rw [if_neg c2] at hf
      refine lv_iconst (v := (-1)) hx hb d_Mod_find_18 (by decide) ?_
      obtain ⟨x3, ex3, hf⟩ := z_bs hf
      refine z_topi (Option.some.inj ex3) ?_
      refine lv_istore (lv' := [(5, .int x3), (0, .ref v0), (1, .int v1), (3, .int v3), (4, .int v4)]) hx hb d_Mod_find_19 hl (by decide) rfl (fun ls hl => ?_)
      refine lv_iconst (v := 0) hx hb d_Mod_find_21 (by decide) ?_
      refine lv_istore (lv' := [(6, .int 0), (5, .int x3), (0, .ref v0), (1, .int v1), (3, .int v3), (4, .int v4)]) hx hb d_Mod_find_22 hl (by decide) rfl (fun ls hl => ?_)
      refine lv_iconst (v := 0) hx hb d_Mod_find_24 (by decide) ?_
      refine lv_istore (lv' := [(7, .int 0), (6, .int 0), (5, .int x3), (0, .ref v0), (1, .int v1), (3, .int v3), (4, .int v4)]) hx hb d_Mod_find_25 hl (by decide) rfl (fun ls hl => ?_)
      refine lv_iconst (v := 1) hx hb d_Mod_find_27 (by decide) ?_
      refine lv_istore (lv' := [(8, .int 1), (7, .int 0), (6, .int 0), (5, .int x3), (0, .ref v0), (1, .int v1), (3, .int v3), (4, .int v4)]) hx hb d_Mod_find_28 hl (by decide) rfl (fun ls hl => ?_)
      refine lv_iconst (v := 0) hx hb d_Mod_find_30 (by decide) ?_
      refine lv_istore (lv' := [(9, .int 0), (8, .int 1), (7, .int 0), (6, .int 0), (5, .int x3), (0, .ref v0), (1, .int v1), (3, .int v3), (4, .int v4)]) hx hb d_Mod_find_31 hl (by decide) rfl (fun ls hl => ?_)
      exact s_Mod_find_33 X ih N v0 v1 v3 v4 x3 0 0 1 0 h _ _ _ hI (lv_sub hl [5, 6, 7, 8, 4, 3, 2, 1, 0] rfl) hf
def f_Mod_find (N : Nat) (v0 : Nat) (v1 : Int32) (v2 : Int32) (h : z_H) : Option (Int32 × z_H) :=
  z_b (gO h v0 12) fun u1 =>
  z_b (f_Mod_starsOf N v0 v1 h) fun r2 =>
  z_b (some (r2.1)) fun x3 =>
  f_Mod_find_9 N N v0 v1 x3 v2 r2.2
set_option maxRecDepth 20000 in
set_option maxHeartbeats 2000000 in
theorem s_Mod_find {l : Launch} {D : va_G} {dA : Nat → ClassId} {B N : Nat} {v0 : Nat} {v1 : Int32} {v2 : Int32} {h h' : z_H} {r : Int32} (hf : f_Mod_find N v0 v1 v2 h = some (r, h')) : z_Met l y_Mod_find prog_14_method_41_code 13 (some .boolean) 2 54 D dA B [.ref v0, .int v1, .int v2] h (some (.int r)) h' := by
  refine z_of (by decide) (Nat.le_of_ble_eq_true rfl) (fun p e s m below meth c ls X hI hl => ?_)
  have hx := z_hx X
  have hb := z_hb X
  have hl : lv_has ls 13 [(0, .ref v0), (1, .int v1), (2, .int v2)] := hl
  unfold f_Mod_find at hf
  obtain ⟨locs, hlo⟩ : ∃ z : List Loc, z = [] := ⟨_, rfl⟩
  rw [← hlo] at hI ⊢
  refine lv_aload_n hx hb d_Mod_find_0 rfl (lv_at hl 0 rfl) ?_
  refine lv_iload_n hx hb d_Mod_find_1 rfl (lv_at hl 1 rfl) ?_
  obtain ⟨u1, eu1, hf⟩ := z_bs hf
  obtain ⟨r2, er2, hf⟩ := z_bs hf
  refine z_callV (As := [.int v1]) (rest := []) (r := (some (.int r2.1))) (h' := r2.2) X hI eu1 (s_Mod_starsOf er2) rfl rfl wm_Mod_306 yi_Mod_starsOf rfl hl.1 rfl (Nat.le_of_ble_eq_true rfl) (by decide) (by decide) d_Mod_find_2 (fun H locs hI => ?_)
  refine W.eq (g2 := F0 m 5 ls [.int (r2.1)]) rfl ?_
  obtain ⟨x3, ex3, hf⟩ := z_bs hf
  refine z_topi (Option.some.inj ex3) ?_
  refine lv_istore_n (lv' := [(3, .int x3), (0, .ref v0), (1, .int v1), (2, .int v2)]) hx hb d_Mod_find_5 rfl hl (by decide) rfl (fun ls hl => ?_)
  refine lv_iload_n hx hb d_Mod_find_6 rfl (lv_at hl 3 rfl) ?_
  refine lv_istore (lv' := [(4, .int v2), (3, .int x3), (0, .ref v0), (1, .int v1), (2, .int v2)]) hx hb d_Mod_find_7 hl (by decide) rfl (fun ls hl => ?_)
  exact s_Mod_find_9 X  N v0 v1 x3 v2 r2.2 _ _ _ hI (lv_sub hl [2, 3, 1, 0] rfl) hf
end
