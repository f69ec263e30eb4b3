section
variable {p : Program} {l : Launch} {e : Env} {s : State} {m : MethodId} {args : Array Value} {below : List Frame} {meth : Method} {c : Code} {Ts : List Cond} {own : String} {D : va_G} {dA : Nat → ClassId} {B : Nat}
def f_Mod_thrown (N : Nat) (v0 : Nat) (h : z_H) : Option (Int32 × z_H) :=
  z_b (gI h v0 12 6) fun x1 =>
  some (x1, h)
set_option maxRecDepth 20000 in
set_option maxHeartbeats 2000000 in
theorem s_Mod_thrown {l : Launch} {D : va_G} {dA : Nat → ClassId} {B N : Nat} {v0 : Nat} {h h' : z_H} {r : Int32} (hf : f_Mod_thrown N v0 h = some (r, h')) : z_Met l y_Mod_thrown prog_14_method_2_code 1 (some .int) 0 0 D dA B [.ref v0] h (some (.int r)) h' := by
  refine z_of (by decide) (Nat.le_of_ble_eq_true rfl) (fun p e s m below meth c ls X hI hl => ?_)
  have hx := z_hx X
  have hb := z_hb X
  have hl : lv_has ls 1 [(0, .ref v0)] := hl
  unfold f_Mod_thrown at hf
  obtain ⟨locs, hlo⟩ : ∃ z : List Loc, z = [] := ⟨_, rfl⟩
  rw [← hlo] at hI ⊢
  refine lv_aload_n hx hb d_Mod_thrown_0 rfl (lv_at hl 0 rfl) ?_
  obtain ⟨x1, ex1, hf⟩ := z_bs hf
  refine z_getF X hI (k := 6) (ci := 12) (gI_s ex1) i_Mod rfl (by decide) wf_Mod_151 d_Mod_thrown_1 ?_
  cases hf
  exact z_iret X hI d_Mod_thrown_4
def f_Mod_in (N : Nat) (v0 : Int32) (v1 : Int32) (v2 : Int32) (h : z_H) : Option (Int32 × z_H) :=
  if v0 < v1 then
  (some (0, h))
  else
  (if v2 < v0 then
  (some (0, h))
  else
  (some (1, h)))
set_option maxRecDepth 20000 in
set_option maxHeartbeats 2000000 in
theorem s_Mod_in {l : Launch} {D : va_G} {dA : Nat → ClassId} {B N : Nat} {v0 : Int32} {v1 : Int32} {v2 : Int32} {h h' : z_H} {r : Int32} (hf : f_Mod_in N v0 v1 v2 h = some (r, h')) : z_Met l y_Mod_in prog_14_method_3_code 3 (some .boolean) 0 0 D dA B [.int v0, .int v1, .int v2] h (some (.int r)) h' := by
  refine z_of (by decide) (Nat.le_of_ble_eq_true rfl) (fun p e s m below meth c ls X hI hl => ?_)
  have hx := z_hx X
  have hb := z_hb X
  have hl : lv_has ls 3 [(0, .int v0), (1, .int v1), (2, .int v2)] := hl
  unfold f_Mod_in at hf
  obtain ⟨locs, hlo⟩ : ∃ z : List Loc, z = [] := ⟨_, rfl⟩
  rw [← hlo] at hI ⊢
  refine lv_iload_n hx hb d_Mod_in_0 rfl (lv_at hl 0 rfl) ?_
  refine lv_iload_n hx hb d_Mod_in_1 rfl (lv_at hl 1 rfl) ?_
  refine lv_icmp_lt (tgt := 14) hx hb d_Mod_in_2 (by decide) (fun c1 => ?_) (fun c1 => ?_)
  · rw [if_pos c1] at hf
    refine lv_iconst (v := 0) hx hb d_Mod_in_14 (by decide) ?_
    cases hf
    exact z_zret X hI (Or.inl rfl) d_Mod_in_15
  · rw [if_neg c1] at hf
    refine lv_iload_n hx hb d_Mod_in_5 rfl (lv_at hl 0 rfl) ?_
    refine lv_iload_n hx hb d_Mod_in_6 rfl (lv_at hl 2 rfl) ?_
    refine lv_icmp_gt (tgt := 14) hx hb d_Mod_in_7 (by decide) (fun c2 => ?_) (fun c2 => ?_)
    · rw [if_pos c2] at hf
      refine lv_iconst (v := 0) hx hb d_Mod_in_14 (by decide) ?_
      cases hf
      exact z_zret X hI (Or.inl rfl) d_Mod_in_15
    · rw [if_neg c2] at hf
      refine lv_iconst (v := 1) hx hb d_Mod_in_10 (by decide) ?_
      refine lv_goto (tgt := 15) hx hb d_Mod_in_11 (by decide) ?_
      cases hf
      exact z_zret X hI (Or.inr rfl) d_Mod_in_15
def f_Mod_fail (N : Nat) (v0 : Nat) (v1 : Int32) (h : z_H) : Option (Int32 × z_H) :=
  z_b (sF h v0 12 6 (.int v1)) fun h1 =>
  some (0, h1)
set_option maxRecDepth 20000 in
set_option maxHeartbeats 2000000 in
theorem s_Mod_fail {l : Launch} {D : va_G} {dA : Nat → ClassId} {B N : Nat} {v0 : Nat} {v1 : Int32} {h h' : z_H} {r : Int32} (hf : f_Mod_fail N v0 v1 h = some (r, h')) : z_Met l y_Mod_fail prog_14_method_4_code 2 (some .int) 0 0 D dA B [.ref v0, .int v1] h (some (.int r)) h' := by
  refine z_of (by decide) (Nat.le_of_ble_eq_true rfl) (fun p e s m below meth c ls X hI hl => ?_)
  have hx := z_hx X
  have hb := z_hb X
  have hl : lv_has ls 2 [(0, .ref v0), (1, .int v1)] := hl
  unfold f_Mod_fail at hf
  obtain ⟨locs, hlo⟩ : ∃ z : List Loc, z = [] := ⟨_, rfl⟩
  rw [← hlo] at hI ⊢
  refine lv_aload_n hx hb d_Mod_fail_0 rfl (lv_at hl 0 rfl) ?_
  refine lv_iload_n hx hb d_Mod_fail_1 rfl (lv_at hl 1 rfl) ?_
  obtain ⟨h1, eh1, hf⟩ := z_bs hf
  refine z_putF X hI (k := 6) (ci := 12) (ty0 := t_Mod) eh1 i_Mod t_Mod_ok n_Mod rfl (by decide) wf_Mod_151 rfl rfl rfl d_Mod_fail_2 (fun H locs hI => ?_)
  refine lv_iconst (v := 0) hx hb d_Mod_fail_5 (by decide) ?_
  cases hf
  exact z_iret X hI d_Mod_fail_6
def f_Mod_measure_6 (N : Nat)  : Nat → Int64 → Int32 → Int32 → Int32 → z_H → Option (Int32 × z_H)
  | 0, _, _, _, _, _ => none
  | n + 1, v0, v2, v3, v4, h =>
    if v4 < 0 then
    (some (v3, h))
    else
    (z_b (some ((Int64.toInt32 (v0 >>> (Int32.toInt64 v4 &&& 63))) &&& 255)) fun x2 =>
    if x2 = 0 then
    (z_b (some (v4 + (-8))) fun x12 =>
    (f_Mod_measure_6 N  n) v0 v2 v3 x12 h)
    else
    (z_b (f_Mod_in N x2 32 126 h) fun r4 =>
    if (r4.1) = 0 then
    (if v2 = 0 then
    (some ((-1), r4.2))
    else
    (if x2 = 10 then
    (z_b (some (v3 + 1)) fun x10 =>
    z_b (some (v4 + (-8))) fun x11 =>
    (f_Mod_measure_6 N  n) v0 v2 x10 x11 r4.2)
    else
    (some ((-1), r4.2))))
    else
    (z_b (some (v3 + 1)) fun x6 =>
    z_b (some (v4 + (-8))) fun x7 =>
    (f_Mod_measure_6 N  n) v0 v2 x6 x7 r4.2)))
set_option maxRecDepth 20000 in
set_option maxHeartbeats 2000000 in
theorem s_Mod_measure_6 (X : z_X p s m args meth c prog_14_method_5_code 6 (some .int) Ts "StreamForgeModel" D dA B) {N : Nat} {r : Int32} {h' : z_H}   : ∀ n : Nat, ∀ (v0 : Int64) (v2 : Int32) (v3 : Int32) (v4 : Int32) (h : z_H) (H : Heap) (locs : List Loc) (ls : Array Slot), z_I D dA B h s.heap H locs → lv_has ls 6 [(0, .long v0), (2, .int v2), (3, .int v3), (4, .int v4)] → f_Mod_measure_6 N  n v0 v2 v3 v4 h = some (r, h') → W p l e (z_rm 1 22) s m args below meth c H locs 0 0 (MQ below (z_Q D dA B (some (.int r)) h') args s 0 0 (fun q => B ≤ q)) (F0 m 6 ls []) := by
  have hx := z_hx X
  have hb := z_hb X
  intro n
  induction n with
  | zero => intro v0 v2 v3 v4 h H locs ls hI hl hf; rw [f_Mod_measure_6] at hf; cases hf
  | succ n ih =>
    intro v0 v2 v3 v4 h H locs ls hI hl hf
    rw [f_Mod_measure_6] at hf
    refine lv_iload hx hb d_Mod_measure_6 (lv_at hl 3 rfl) ?_
    refine lv_if_lt (tgt := 64) hx hb d_Mod_measure_8 (by decide) (fun c1 => ?_) (fun c1 => ?_)
    · rw [if_pos c1] at hf
      refine lv_iload_n hx hb d_Mod_measure_64 rfl (lv_at hl 2 rfl) ?_
      cases hf
      exact z_iret X hI d_Mod_measure_65
    · rw [if_neg c1] at hf
      refine lv_lload_n hx hb d_Mod_measure_11 rfl (lv_at hl 0 rfl) ?_
      refine lv_iload hx hb d_Mod_measure_12 (lv_at hl 3 rfl) ?_
      refine lv_lshr hx hb d_Mod_measure_14 rfl ?_
      refine lv_l2i hx hb d_Mod_measure_15 rfl ?_
      refine lv_sipush (v := 255) hx hb d_Mod_measure_16 (by decide) ?_
      refine lv_iand hx hb d_Mod_measure_19 ?_
      obtain ⟨x2, ex2, hf⟩ := z_bs hf
      refine z_topi (Option.some.inj ex2) ?_
      refine lv_istore (lv' := [(5, .int x2), (0, .long v0), (2, .int v2), (3, .int v3), (4, .int v4)]) hx hb d_Mod_measure_20 hl (by decide) rfl (fun ls hl => ?_)
      refine lv_iload hx hb d_Mod_measure_22 (lv_at hl 0 rfl) ?_
      refine lv_if_ne (tgt := 30) hx hb d_Mod_measure_24 (by decide) (fun c3 => ?_) (fun c3 => ?_)
      · rw [if_neg c3] at hf
        refine lv_iload hx hb d_Mod_measure_30 (lv_at hl 0 rfl) ?_
        refine lv_bipush (v := 32) hx hb d_Mod_measure_32 (by decide) ?_
        refine lv_bipush (v := 126) hx hb d_Mod_measure_34 (by decide) ?_
        obtain ⟨r4, er4, hf⟩ := z_bs hf
        refine z_callS (As := [.int x2, .int 32, .int 126]) (rest := []) (r := (some (.int r4.1))) (h' := r4.2) X hI (s_Mod_in er4) rfl wm_Mod_154 yi_Mod_in rfl hl.1 rfl (Nat.le_of_ble_eq_true rfl) (by decide) (by decide) d_Mod_measure_36 (fun H locs hI => ?_)
        refine W.eq (g2 := F0 m 39 ls [.int (r4.1)]) rfl ?_
        refine lv_if_ne (tgt := 55) hx hb d_Mod_measure_39 (by decide) (fun c5 => ?_) (fun c5 => ?_)
        · rw [if_neg c5] at hf
          obtain ⟨x6, ex6, hf⟩ := z_bs hf
          refine lv_iinc (v := x6) (lv' := [(3, .int x6), (5, .int x2), (0, .long v0), (2, .int v2), (4, .int v4)]) hx hb d_Mod_measure_55 hl (k := 3) rfl (by rw [← Option.some.inj ex6]; rfl) (by decide) rfl (fun ls hl => ?_)
          obtain ⟨x7, ex7, hf⟩ := z_bs hf
          refine lv_iinc (v := x7) (lv' := [(4, .int x7), (3, .int x6), (5, .int x2), (0, .long v0), (2, .int v2)]) hx hb d_Mod_measure_58 hl (k := 4) rfl (by rw [← Option.some.inj ex7]; rfl) (by decide) rfl (fun ls hl => ?_)
          refine lv_goto (tgt := 6) hx hb d_Mod_measure_61 (by decide) ?_
          exact ih v0 v2 x6 x7 r4.2 _ _ _ hI (lv_sub hl [3, 4, 1, 0] rfl) hf
        · rw [if_pos c5] at hf
          refine lv_iload_n hx hb d_Mod_measure_42 rfl (lv_at hl 2 rfl) ?_
          refine lv_if_eq (tgt := 53) hx hb d_Mod_measure_43 (by decide) (fun c8 => ?_) (fun c8 => ?_)
          · rw [if_pos c8] at hf
            refine lv_iconst (v := (-1)) hx hb d_Mod_measure_53 (by decide) ?_
            cases hf
            exact z_iret X hI d_Mod_measure_54
          · rw [if_neg c8] at hf
            refine lv_iload hx hb d_Mod_measure_46 (lv_at hl 0 rfl) ?_
            refine lv_bipush (v := 10) hx hb d_Mod_measure_48 (by decide) ?_
            refine lv_icmp_eq (tgt := 55) hx hb d_Mod_measure_50 (by decide) (fun c9 => ?_) (fun c9 => ?_)
            · rw [if_pos c9] at hf
              obtain ⟨x10, ex10, hf⟩ := z_bs hf
              refine lv_iinc (v := x10) (lv' := [(3, .int x10), (5, .int x2), (0, .long v0), (2, .int v2), (4, .int v4)]) hx hb d_Mod_measure_55 hl (k := 3) rfl (by rw [← Option.some.inj ex10]; rfl) (by decide) rfl (fun ls hl => ?_)
              obtain ⟨x11, ex11, hf⟩ := z_bs hf
              refine lv_iinc (v := x11) (lv' := [(4, .int x11), (3, .int x10), (5, .int x2), (0, .long v0), (2, .int v2)]) hx hb d_Mod_measure_58 hl (k := 4) rfl (by rw [← Option.some.inj ex11]; rfl) (by decide) rfl (fun ls hl => ?_)
              refine lv_goto (tgt := 6) hx hb d_Mod_measure_61 (by decide) ?_
              exact ih v0 v2 x10 x11 r4.2 _ _ _ hI (lv_sub hl [3, 4, 1, 0] rfl) hf
            · rw [if_neg c9] at hf
              refine lv_iconst (v := (-1)) hx hb d_Mod_measure_53 (by decide) ?_
              cases hf
              exact z_iret X hI d_Mod_measure_54
      · rw [if_pos c3] at hf
        refine lv_goto (tgt := 58) hx hb d_Mod_measure_27 (by decide) ?_
        obtain ⟨x12, ex12, hf⟩ := z_bs hf
        refine lv_iinc (v := x12) (lv' := [(4, .int x12), (5, .int x2), (0, .long v0), (2, .int v2), (3, .int v3)]) hx hb d_Mod_measure_58 hl (k := 4) rfl (by rw [← Option.some.inj ex12]; rfl) (by decide) rfl (fun ls hl => ?_)
        refine lv_goto (tgt := 6) hx hb d_Mod_measure_61 (by decide) ?_
        exact ih v0 v2 v3 x12 h _ _ _ hI (lv_sub hl [2, 3, 4, 0] rfl) hf
def f_Mod_measure (N : Nat) (v0 : Int64) (v2 : Int32) (h : z_H) : Option (Int32 × z_H) :=
  f_Mod_measure_6 N N v0 v2 0 56 h
set_option maxRecDepth 20000 in
set_option maxHeartbeats 2000000 in
theorem s_Mod_measure {l : Launch} {D : va_G} {dA : Nat → ClassId} {B N : Nat} {v0 : Int64} {v2 : Int32} {h h' : z_H} {r : Int32} (hf : f_Mod_measure N v0 v2 h = some (r, h')) : z_Met l y_Mod_measure prog_14_method_5_code 6 (some .int) 1 22 D dA B [.long v0, .int v2] h (some (.int r)) h' := by
  refine z_of (by decide) (Nat.le_of_ble_eq_true rfl) (fun p e s m below meth c ls X hI hl => ?_)
  have hx := z_hx X
  have hb := z_hb X
  have hl : lv_has ls 6 [(0, .long v0), (2, .int v2)] := hl
  unfold f_Mod_measure at hf
  obtain ⟨locs, hlo⟩ : ∃ z : List Loc, z = [] := ⟨_, rfl⟩
  rw [← hlo] at hI ⊢
  refine lv_iconst (v := 0) hx hb d_Mod_measure_0 (by decide) ?_
  refine lv_istore_n (lv' := [(3, .int 0), (0, .long v0), (2, .int v2)]) hx hb d_Mod_measure_1 rfl hl (by decide) rfl (fun ls hl => ?_)
  refine lv_bipush (v := 56) hx hb d_Mod_measure_2 (by decide) ?_
  refine lv_istore (lv' := [(4, .int 56), (3, .int 0), (0, .long v0), (2, .int v2)]) hx hb d_Mod_measure_4 hl (by decide) rfl (fun ls hl => ?_)
  exact s_Mod_measure_6 X  N v0 v2 0 56 h _ _ _ hI (lv_sub hl [2, 3, 1, 0] rfl) hf
def f_Mod_script_43 (N : Nat)  : Nat → Nat → Int64 → Int32 → z_H → Option (Int32 × z_H)
  | 0, _, _, _, _ => none
  | n + 1, v0, v1, v4, h =>
    if v4 < 0 then
    (z_b (gI h v0 12 3) fun x2 =>
    some (x2, h))
    else
    (z_b (some ((Int64.toInt32 (v1 >>> (Int32.toInt64 v4 &&& 63))) &&& 255)) fun x3 =>
    if x3 = 0 then
    (z_b (some (v4 + (-8))) fun x11 =>
    (f_Mod_script_43 N  n) v0 v1 x11 h)
    else
    (z_b (gR h v0 12 0) fun x5 =>
    z_b (gI h v0 12 3) fun x6 =>
    z_b (uI h x5 0 x6 x3) fun h7 =>
    z_b (gI h7 v0 12 3) fun x8 =>
    z_b (sF h7 v0 12 3 (.int (x8 + 1))) fun h9 =>
    z_b (some (v4 + (-8))) fun x10 =>
    (f_Mod_script_43 N  n) v0 v1 x10 h9))
set_option maxRecDepth 20000 in
set_option maxHeartbeats 2000000 in
theorem s_Mod_script_43 (X : z_X p s m args meth c prog_14_method_6_code 6 (some .int) Ts "StreamForgeModel" D dA B) {N : Nat} {r : Int32} {h' : z_H}   : ∀ n : Nat, ∀ (v0 : Nat) (v1 : Int64) (v4 : Int32) (h : z_H) (H : Heap) (locs : List Loc) (ls : Array Slot), z_I D dA B h s.heap H locs → lv_has ls 6 [(0, .ref v0), (1, .long v1), (4, .int v4)] → f_Mod_script_43 N  n v0 v1 v4 h = some (r, h') → W p l e (z_rm 2 47) s m args below meth c H locs 0 0 (MQ below (z_Q D dA B (some (.int r)) h') args s 0 0 (fun q => B ≤ q)) (F0 m 43 ls []) := by
  have hx := z_hx X
  have hb := z_hb X
  intro n
  induction n with
  | zero => intro v0 v1 v4 h H locs ls hI hl hf; rw [f_Mod_script_43] at hf; cases hf
  | succ n ih =>
    intro v0 v1 v4 h H locs ls hI hl hf
    rw [f_Mod_script_43] at hf
    refine lv_iload hx hb d_Mod_script_43 (lv_at hl 2 rfl) ?_
    refine lv_if_lt (tgt := 94) hx hb d_Mod_script_45 (by decide) (fun c1 => ?_) (fun c1 => ?_)
    · rw [if_pos c1] at hf
      refine lv_aload_n hx hb d_Mod_script_94 rfl (lv_at hl 0 rfl) ?_
      obtain ⟨x2, ex2, hf⟩ := z_bs hf
      refine z_getF X hI (k := 3) (ci := 12) (gI_s ex2) i_Mod rfl (by decide) wf_Mod_166 d_Mod_script_95 ?_
      cases hf
      exact z_iret X hI d_Mod_script_98
    · rw [if_neg c1] at hf
      refine lv_lload_n hx hb d_Mod_script_48 rfl (lv_at hl 1 rfl) ?_
      refine lv_iload hx hb d_Mod_script_49 (lv_at hl 2 rfl) ?_
      refine lv_lshr hx hb d_Mod_script_51 rfl ?_
      refine lv_l2i hx hb d_Mod_script_52 rfl ?_
      refine lv_sipush (v := 255) hx hb d_Mod_script_53 (by decide) ?_
      refine lv_iand hx hb d_Mod_script_56 ?_
      obtain ⟨x3, ex3, hf⟩ := z_bs hf
      refine z_topi (Option.some.inj ex3) ?_
      refine lv_istore (lv' := [(5, .int x3), (0, .ref v0), (1, .long v1), (4, .int v4)]) hx hb d_Mod_script_57 hl (by decide) rfl (fun ls hl => ?_)
      refine lv_iload hx hb d_Mod_script_59 (lv_at hl 0 rfl) ?_
      refine lv_if_ne (tgt := 67) hx hb d_Mod_script_61 (by decide) (fun c4 => ?_) (fun c4 => ?_)
      · rw [if_neg c4] at hf
        refine lv_aload_n hx hb d_Mod_script_67 rfl (lv_at hl 1 rfl) ?_
        obtain ⟨x5, ex5, hf⟩ := z_bs hf
        refine z_getF X hI (k := 0) (ci := 12) (gR_s ex5) i_Mod rfl (by decide) wf_Mod_7 d_Mod_script_68 ?_
        refine lv_aload_n hx hb d_Mod_script_71 rfl (lv_at hl 1 rfl) ?_
        obtain ⟨x6, ex6, hf⟩ := z_bs hf
        refine z_getF X hI (k := 3) (ci := 12) (gI_s ex6) i_Mod rfl (by decide) wf_Mod_166 d_Mod_script_72 ?_
        refine lv_iload hx hb d_Mod_script_75 (lv_at hl 0 rfl) ?_
        obtain ⟨h7, eh7, hf⟩ := z_bs hf
        refine z_iast X hI eh7 d_Mod_script_77 (fun H locs hI => ?_)
        refine lv_aload_n hx hb d_Mod_script_78 rfl (lv_at hl 1 rfl) ?_
        refine lv_dup hx hb d_Mod_script_79 rfl ?_
        obtain ⟨x8, ex8, hf⟩ := z_bs hf
        refine z_getF X hI (k := 3) (ci := 12) (gI_s ex8) i_Mod rfl (by decide) wf_Mod_166 d_Mod_script_80 ?_
        refine lv_iconst (v := 1) hx hb d_Mod_script_83 (by decide) ?_
        refine lv_iadd hx hb d_Mod_script_84 ?_
        obtain ⟨h9, eh9, hf⟩ := z_bs hf
        refine z_putF X hI (k := 3) (ci := 12) (ty0 := t_Mod) eh9 i_Mod t_Mod_ok n_Mod rfl (by decide) wf_Mod_166 rfl rfl rfl d_Mod_script_85 (fun H locs hI => ?_)
        obtain ⟨x10, ex10, hf⟩ := z_bs hf
        refine lv_iinc (v := x10) (lv' := [(4, .int x10), (5, .int x3), (0, .ref v0), (1, .long v1)]) hx hb d_Mod_script_88 hl (k := 3) rfl (by rw [← Option.some.inj ex10]; rfl) (by decide) rfl (fun ls hl => ?_)
        refine lv_goto (tgt := 43) hx hb d_Mod_script_91 (by decide) ?_
        exact ih v0 v1 x10 h9 _ _ _ hI (lv_sub hl [2, 3, 0] rfl) hf
      · rw [if_pos c4] at hf
        refine lv_goto (tgt := 88) hx hb d_Mod_script_64 (by decide) ?_
        obtain ⟨x11, ex11, hf⟩ := z_bs hf
        refine lv_iinc (v := x11) (lv' := [(4, .int x11), (5, .int x3), (0, .ref v0), (1, .long v1)]) hx hb d_Mod_script_88 hl (k := 3) rfl (by rw [← Option.some.inj ex11]; rfl) (by decide) rfl (fun ls hl => ?_)
        refine lv_goto (tgt := 43) hx hb d_Mod_script_91 (by decide) ?_
        exact ih v0 v1 x11 h _ _ _ hI (lv_sub hl [2, 3, 0] rfl) hf
def f_Mod_script (N : Nat) (v0 : Nat) (v1 : Int64) (h : z_H) : Option (Int32 × z_H) :=
  z_b (f_Mod_measure N v1 1 h) fun r1 =>
  z_b (some (r1.1)) fun x2 =>
  if 0 ≤ x2 then
  (z_b (gI r1.2 v0 12 3) fun x4 =>
  if (x4 + x2) ≤ 240 then
  (z_b (sF r1.2 v0 12 6 (.int 0)) fun h6 =>
  f_Mod_script_43 N N v0 v1 56 h6)
  else
  (z_b (gO r1.2 v0 12) fun u7 =>
  z_b (f_Mod_fail N v0 2 r1.2) fun r8 =>
  some (r8.1, r8.2)))
  else
  (z_b (gO r1.2 v0 12) fun u9 =>
  z_b (f_Mod_fail N v0 1 r1.2) fun r10 =>
  some (r10.1, r10.2))
set_option maxRecDepth 20000 in
set_option maxHeartbeats 2000000 in
theorem s_Mod_script {l : Launch} {D : va_G} {dA : Nat → ClassId} {B N : Nat} {v0 : Nat} {v1 : Int64} {h h' : z_H} {r : Int32} (hf : f_Mod_script N v0 v1 h = some (r, h')) : z_Met l y_Mod_script prog_14_method_6_code 6 (some .int) 2 47 D dA B [.ref v0, .long v1] h (some (.int r)) h' := by
  refine z_of (by decide) (Nat.le_of_ble_eq_true rfl) (fun p e s m below meth c ls X hI hl => ?_)
  have hx := z_hx X
  have hb := z_hb X
  have hl : lv_has ls 6 [(0, .ref v0), (1, .long v1)] := hl
  unfold f_Mod_script at hf
  obtain ⟨locs, hlo⟩ : ∃ z : List Loc, z = [] := ⟨_, rfl⟩
  rw [← hlo] at hI ⊢
  refine lv_lload_n hx hb d_Mod_script_0 rfl (lv_at hl 1 rfl) ?_
  refine lv_iconst (v := 1) hx hb d_Mod_script_1 (by decide) ?_
  obtain ⟨r1, er1, hf⟩ := z_bs hf
  refine z_callS (As := [.long v1, .int 1]) (rest := []) (r := (some (.int r1.1))) (h' := r1.2) X hI (s_Mod_measure er1) rfl wm_Mod_158 yi_Mod_measure rfl hl.1 rfl (Nat.le_of_ble_eq_true rfl) (by decide) (by decide) d_Mod_script_2 (fun H locs hI => ?_)
  refine W.eq (g2 := F0 m 5 ls [.int (r1.1)]) rfl ?_
  obtain ⟨x2, ex2, hf⟩ := z_bs hf
  refine z_topi (Option.some.inj ex2) ?_
  refine lv_istore_n (lv' := [(3, .int x2), (0, .ref v0), (1, .long v1)]) hx hb d_Mod_script_5 rfl hl (by decide) rfl (fun ls hl => ?_)
  refine lv_iload_n hx hb d_Mod_script_6 rfl (lv_at hl 0 rfl) ?_
  refine lv_if_ge (tgt := 16) hx hb d_Mod_script_7 (by decide) (fun c3 => ?_) (fun c3 => ?_)
  · rw [if_pos c3] at hf
    refine lv_aload_n hx hb d_Mod_script_16 rfl (lv_at hl 1 rfl) ?_
    obtain ⟨x4, ex4, hf⟩ := z_bs hf
    refine z_getF X hI (k := 3) (ci := 12) (gI_s ex4) i_Mod rfl (by decide) wf_Mod_166 d_Mod_script_17 ?_
    refine lv_iload_n hx hb d_Mod_script_20 rfl (lv_at hl 0 rfl) ?_
    refine lv_iadd hx hb d_Mod_script_21 ?_
    refine lv_sipush (v := 240) hx hb d_Mod_script_22 (by decide) ?_
    refine lv_icmp_le (tgt := 34) hx hb d_Mod_script_25 (by decide) (fun c5 => ?_) (fun c5 => ?_)
    · rw [if_pos c5] at hf
      refine lv_aload_n hx hb d_Mod_script_34 rfl (lv_at hl 1 rfl) ?_
      refine lv_iconst (v := 0) hx hb d_Mod_script_35 (by decide) ?_
      obtain ⟨h6, eh6, hf⟩ := z_bs hf
      refine z_putF X hI (k := 6) (ci := 12) (ty0 := t_Mod) eh6 i_Mod t_Mod_ok n_Mod rfl (by decide) wf_Mod_151 rfl rfl rfl d_Mod_script_36 (fun H locs hI => ?_)
      refine lv_bipush (v := 56) hx hb d_Mod_script_39 (by decide) ?_
      refine lv_istore (lv' := [(4, .int 56), (3, .int x2), (0, .ref v0), (1, .long v1)]) hx hb d_Mod_script_41 hl (by decide) rfl (fun ls hl => ?_)
      exact s_Mod_script_43 X  N v0 v1 56 h6 _ _ _ hI (lv_sub hl [2, 3, 0] rfl) hf
    · rw [if_neg c5] at hf
      refine lv_aload_n hx hb d_Mod_script_28 rfl (lv_at hl 1 rfl) ?_
      refine lv_iconst (v := 2) hx hb d_Mod_script_29 (by decide) ?_
      obtain ⟨u7, eu7, hf⟩ := z_bs hf
      obtain ⟨r8, er8, hf⟩ := z_bs hf
      refine z_callV (As := [.int 2]) (rest := []) (r := (some (.int r8.1))) (h' := r8.2) X hI eu7 (s_Mod_fail er8) rfl rfl wm_Mod_162 yi_Mod_fail rfl hl.1 rfl (Nat.le_of_ble_eq_true rfl) (by decide) (by decide) d_Mod_script_30 (fun H locs hI => ?_)
      refine W.eq (g2 := F0 m 33 ls [.int (r8.1)]) rfl ?_
      cases hf
      exact z_iret X hI d_Mod_script_33
  · rw [if_neg c3] at hf
    refine lv_aload_n hx hb d_Mod_script_10 rfl (lv_at hl 1 rfl) ?_
    refine lv_iconst (v := 1) hx hb d_Mod_script_11 (by decide) ?_
    obtain ⟨u9, eu9, hf⟩ := z_bs hf
    obtain ⟨r10, er10, hf⟩ := z_bs hf
    refine z_callV (As := [.int 1]) (rest := []) (r := (some (.int r10.1))) (h' := r10.2) X hI eu9 (s_Mod_fail er10) rfl rfl wm_Mod_162 yi_Mod_fail rfl hl.1 rfl (Nat.le_of_ble_eq_true rfl) (by decide) (by decide) d_Mod_script_12 (fun H locs hI => ?_)
    refine W.eq (g2 := F0 m 15 ls [.int (r10.1)]) rfl ?_
    cases hf
    exact z_iret X hI d_Mod_script_15
def f_Mod_clear_35 (N : Nat)  (v0 : Nat) (v1 : Int32) (s0 : Int32) (h : z_H) : Option (Int32 × z_H) :=
  if v1 = 0 then
  (z_b (sF h v0 12 3 (.int 0)) fun h3 =>
  some (s0, h3))
  else
  (z_b (sF h v0 12 4 (.int 0)) fun h2 =>
  some (s0, h2))
set_option maxRecDepth 20000 in
set_option maxHeartbeats 2000000 in
theorem s_Mod_clear_35 (X : z_X p s m args meth c prog_14_method_7_code 3 (some .int) Ts "StreamForgeModel" D dA B) {N : Nat} {r : Int32} {h' : z_H}   : ∀ (v0 : Nat) (v1 : Int32) (s0 : Int32) (h : z_H) (H : Heap) (locs : List Loc) (ls : Array Slot), z_I D dA B h s.heap H locs → lv_has ls 3 [(0, .ref v0), (1, .int v1)] → f_Mod_clear_35 N  v0 v1 s0 h = some (r, h') → W p l e (z_rm 1 22) s m args below meth c H locs 0 0 (MQ below (z_Q D dA B (some (.int r)) h') args s 0 0 (fun q => B ≤ q)) (F0 m 35 ls [.int s0]) := by
  have hx := z_hx X
  have hb := z_hb X
  intro v0 v1 s0 h H locs ls hI hl hf
  unfold f_Mod_clear_35 at hf
  refine lv_istore_n (lv' := [(2, .int s0), (0, .ref v0), (1, .int v1)]) hx hb d_Mod_clear_35 rfl hl (by decide) rfl (fun ls hl => ?_)
  refine lv_iload_n hx hb d_Mod_clear_36 rfl (lv_at hl 2 rfl) ?_
  refine lv_if_ne (tgt := 48) hx hb d_Mod_clear_37 (by decide) (fun c1 => ?_) (fun c1 => ?_)
  · rw [if_neg c1] at hf
    refine lv_aload_n hx hb d_Mod_clear_48 rfl (lv_at hl 1 rfl) ?_
    refine lv_iconst (v := 0) hx hb d_Mod_clear_49 (by decide) ?_
    obtain ⟨h2, eh2, hf⟩ := z_bs hf
    refine z_putF X hI (k := 4) (ci := 12) (ty0 := t_Mod) eh2 i_Mod t_Mod_ok n_Mod rfl (by decide) wf_Mod_169 rfl rfl rfl d_Mod_clear_50 (fun H locs hI => ?_)
    refine lv_iload_n hx hb d_Mod_clear_53 rfl (lv_at hl 0 rfl) ?_
    cases hf
    exact z_iret X hI d_Mod_clear_54
  · rw [if_pos c1] at hf
    refine lv_aload_n hx hb d_Mod_clear_40 rfl (lv_at hl 1 rfl) ?_
    refine lv_iconst (v := 0) hx hb d_Mod_clear_41 (by decide) ?_
    obtain ⟨h3, eh3, hf⟩ := z_bs hf
    refine z_putF X hI (k := 3) (ci := 12) (ty0 := t_Mod) eh3 i_Mod t_Mod_ok n_Mod rfl (by decide) wf_Mod_166 rfl rfl rfl d_Mod_clear_42 (fun H locs hI => ?_)
    refine lv_goto (tgt := 53) hx hb d_Mod_clear_45 (by decide) ?_
    refine lv_iload_n hx hb d_Mod_clear_53 rfl (lv_at hl 0 rfl) ?_
    cases hf
    exact z_iret X hI d_Mod_clear_54
def f_Mod_clear (N : Nat) (v0 : Nat) (v1 : Int32) (h : z_H) : Option (Int32 × z_H) :=
  z_b (f_Mod_in N v1 0 1 h) fun r1 =>
  if (r1.1) = 0 then
  (z_b (gO r1.2 v0 12) fun u7 =>
  z_b (f_Mod_fail N v0 1 r1.2) fun r8 =>
  some (r8.1, r8.2))
  else
  (z_b (sF r1.2 v0 12 6 (.int 0)) fun h3 =>
  if v1 = 0 then
  (z_b (gI h3 v0 12 3) fun x6 =>
  f_Mod_clear_35 N v0 v1 x6 h3)
  else
  (z_b (gI h3 v0 12 4) fun x5 =>
  f_Mod_clear_35 N v0 v1 x5 h3))
set_option maxRecDepth 20000 in
set_option maxHeartbeats 2000000 in
theorem s_Mod_clear {l : Launch} {D : va_G} {dA : Nat → ClassId} {B N : Nat} {v0 : Nat} {v1 : Int32} {h h' : z_H} {r : Int32} (hf : f_Mod_clear N v0 v1 h = some (r, h')) : z_Met l y_Mod_clear prog_14_method_7_code 3 (some .int) 1 22 D dA B [.ref v0, .int v1] h (some (.int r)) h' := by
  refine z_of (by decide) (Nat.le_of_ble_eq_true rfl) (fun p e s m below meth c ls X hI hl => ?_)
  have hx := z_hx X
  have hb := z_hb X
  have hl : lv_has ls 3 [(0, .ref v0), (1, .int v1)] := hl
  unfold f_Mod_clear at hf
  obtain ⟨locs, hlo⟩ : ∃ z : List Loc, z = [] := ⟨_, rfl⟩
  rw [← hlo] at hI ⊢
  refine lv_iload_n hx hb d_Mod_clear_0 rfl (lv_at hl 1 rfl) ?_
  refine lv_iconst (v := 0) hx hb d_Mod_clear_1 (by decide) ?_
  refine lv_iconst (v := 1) hx hb d_Mod_clear_2 (by decide) ?_
  obtain ⟨r1, er1, hf⟩ := z_bs hf
  refine z_callS (As := [.int v1, .int 0, .int 1]) (rest := []) (r := (some (.int r1.1))) (h' := r1.2) X hI (s_Mod_in er1) rfl wm_Mod_154 yi_Mod_in rfl hl.1 rfl (Nat.le_of_ble_eq_true rfl) (by decide) (by decide) d_Mod_clear_3 (fun H locs hI => ?_)
  refine W.eq (g2 := F0 m 6 ls [.int (r1.1)]) rfl ?_
  refine lv_if_ne (tgt := 15) hx hb d_Mod_clear_6 (by decide) (fun c2 => ?_) (fun c2 => ?_)
  · rw [if_neg c2] at hf
    refine lv_aload_n hx hb d_Mod_clear_15 rfl (lv_at hl 0 rfl) ?_
    refine lv_iconst (v := 0) hx hb d_Mod_clear_16 (by decide) ?_
    obtain ⟨h3, eh3, hf⟩ := z_bs hf
    refine z_putF X hI (k := 6) (ci := 12) (ty0 := t_Mod) eh3 i_Mod t_Mod_ok n_Mod rfl (by decide) wf_Mod_151 rfl rfl rfl d_Mod_clear_17 (fun H locs hI => ?_)
    refine lv_iload_n hx hb d_Mod_clear_20 rfl (lv_at hl 1 rfl) ?_
    refine lv_if_ne (tgt := 31) hx hb d_Mod_clear_21 (by decide) (fun c4 => ?_) (fun c4 => ?_)
    · rw [if_neg c4] at hf
      refine lv_aload_n hx hb d_Mod_clear_31 rfl (lv_at hl 0 rfl) ?_
      obtain ⟨x5, ex5, hf⟩ := z_bs hf
      refine z_getF X hI (k := 4) (ci := 12) (gI_s ex5) i_Mod rfl (by decide) wf_Mod_169 d_Mod_clear_32 ?_
      exact s_Mod_clear_35 X  v0 v1 x5 h3 _ _ _ hI (lv_sub hl [0, 1] rfl) hf
    · rw [if_pos c4] at hf
      refine lv_aload_n hx hb d_Mod_clear_24 rfl (lv_at hl 0 rfl) ?_
      obtain ⟨x6, ex6, hf⟩ := z_bs hf
      refine z_getF X hI (k := 3) (ci := 12) (gI_s ex6) i_Mod rfl (by decide) wf_Mod_166 d_Mod_clear_25 ?_
      refine lv_goto (tgt := 35) hx hb d_Mod_clear_28 (by decide) ?_
      exact s_Mod_clear_35 X  v0 v1 x6 h3 _ _ _ hI (lv_sub hl [0, 1] rfl) hf
  · rw [if_pos c2] at hf
    refine lv_aload_n hx hb d_Mod_clear_9 rfl (lv_at hl 0 rfl) ?_
    refine lv_iconst (v := 1) hx hb d_Mod_clear_10 (by decide) ?_
    obtain ⟨u7, eu7, hf⟩ := z_bs hf
    obtain ⟨r8, er8, hf⟩ := z_bs hf
    refine z_callV (As := [.int 1]) (rest := []) (r := (some (.int r8.1))) (h' := r8.2) X hI eu7 (s_Mod_fail er8) rfl rfl wm_Mod_162 yi_Mod_fail rfl hl.1 rfl (Nat.le_of_ble_eq_true rfl) (by decide) (by decide) d_Mod_clear_11 (fun H locs hI => ?_)
    refine W.eq (g2 := F0 m 14 ls [.int (r8.1)]) rfl ?_
    cases hf
    exact z_iret X hI d_Mod_clear_14
def f_Mod_addTo_4 (N : Nat)  : Nat → Nat → Int32 → Int64 → Int32 → z_H → Option z_H
  | 0, _, _, _, _, _ => none
  | n + 1, v0, v1, v2, v4, h =>
    if v4 < 0 then
    (some h)
    else
    (z_b (some ((Int64.toInt32 (v2 >>> (Int32.toInt64 v4 &&& 63))) &&& 255)) fun x2 =>
    if x2 = 0 then
    (z_b (some (v4 + (-8))) fun x12 =>
    (f_Mod_addTo_4 N  n) v0 v1 v2 x12 h)
    else
    (z_b (gR h v0 12 2) fun x4 =>
    z_b (gR h v0 12 1) fun x5 =>
    z_b (aI h x5 0 v1) fun x6 =>
    z_b (uI h x4 0 ((24 * v1) + x6) x2) fun h7 =>
    z_b (gR h7 v0 12 1) fun x8 =>
    z_b (aI h7 x8 0 v1) fun x9 =>
    z_b (uI h7 x8 0 v1 (x9 + 1)) fun h10 =>
    z_b (some (v4 + (-8))) fun x11 =>
    (f_Mod_addTo_4 N  n) v0 v1 v2 x11 h10))
set_option maxRecDepth 20000 in
set_option maxHeartbeats 2000000 in
theorem s_Mod_addTo_4 (X : z_X p s m args meth c prog_14_method_8_code 6 none Ts "StreamForgeModel" D dA B) {N : Nat} {h' : z_H}   : ∀ n : Nat, ∀ (v0 : Nat) (v1 : Int32) (v2 : Int64) (v4 : Int32) (h : z_H) (H : Heap) (locs : List Loc) (ls : Array Slot), z_I D dA B h s.heap H locs → lv_has ls 6 [(0, .ref v0), (1, .int v1), (2, .long v2), (4, .int v4)] → f_Mod_addTo_4 N  n v0 v1 v2 v4 h = some h' → W p l e (z_rm 0 0) s m args below meth c H locs 0 0 (MQ below (z_Q D dA B none h') args s 0 0 (fun q => B ≤ q)) (F0 m 4 ls []) := by
  have hx := z_hx X
  have hb := z_hb X
  intro n
  induction n with
  | zero => intro v0 v1 v2 v4 h H locs ls hI hl hf; rw [f_Mod_addTo_4] at hf; cases hf
  | succ n ih =>
    intro v0 v1 v2 v4 h H locs ls hI hl hf
    rw [f_Mod_addTo_4] at hf
    refine lv_iload hx hb d_Mod_addTo_4 (lv_at hl 3 rfl) ?_
    refine lv_if_lt (tgt := 62) hx hb d_Mod_addTo_6 (by decide) (fun c1 => ?_) (fun c1 => ?_)
    · rw [if_pos c1] at hf
      cases hf
      exact z_vret X hI d_Mod_addTo_62
    · rw [if_neg c1] at hf
      refine lv_lload_n hx hb d_Mod_addTo_9 rfl (lv_at hl 2 rfl) ?_
      refine lv_iload hx hb d_Mod_addTo_10 (lv_at hl 3 rfl) ?_
      refine lv_lshr hx hb d_Mod_addTo_12 rfl ?_
      refine lv_l2i hx hb d_Mod_addTo_13 rfl ?_
      refine lv_sipush (v := 255) hx hb d_Mod_addTo_14 (by decide) ?_
      refine lv_iand hx hb d_Mod_addTo_17 ?_
      obtain ⟨x2, ex2, hf⟩ := z_bs hf
      refine z_topi (Option.some.inj ex2) ?_
      refine lv_istore (lv' := [(5, .int x2), (0, .ref v0), (1, .int v1), (2, .long v2), (4, .int v4)]) hx hb d_Mod_addTo_18 hl (by decide) rfl (fun ls hl => ?_)
      refine lv_iload hx hb d_Mod_addTo_20 (lv_at hl 0 rfl) ?_
      refine lv_if_ne (tgt := 28) hx hb d_Mod_addTo_22 (by decide) (fun c3 => ?_) (fun c3 => ?_)
      · rw [if_neg c3] at hf
        refine lv_aload_n hx hb d_Mod_addTo_28 rfl (lv_at hl 1 rfl) ?_
        obtain ⟨x4, ex4, hf⟩ := z_bs hf
        refine z_getF X hI (k := 2) (ci := 12) (gR_s ex4) i_Mod rfl (by decide) wf_Mod_16 d_Mod_addTo_29 ?_
        refine lv_bipush (v := 24) hx hb d_Mod_addTo_32 (by decide) ?_
        refine lv_iload_n hx hb d_Mod_addTo_34 rfl (lv_at hl 2 rfl) ?_
        refine lv_imul hx hb d_Mod_addTo_35 ?_
        refine lv_aload_n hx hb d_Mod_addTo_36 rfl (lv_at hl 1 rfl) ?_
        obtain ⟨x5, ex5, hf⟩ := z_bs hf
        refine z_getF X hI (k := 1) (ci := 12) (gR_s ex5) i_Mod rfl (by decide) wf_Mod_13 d_Mod_addTo_37 ?_
        refine lv_iload_n hx hb d_Mod_addTo_40 rfl (lv_at hl 2 rfl) ?_
        obtain ⟨x6, ex6, hf⟩ := z_bs hf
        refine z_iald X hI ex6 d_Mod_addTo_41 ?_
        refine lv_iadd hx hb d_Mod_addTo_42 ?_
        refine lv_iload hx hb d_Mod_addTo_43 (lv_at hl 0 rfl) ?_
        obtain ⟨h7, eh7, hf⟩ := z_bs hf
        refine z_iast X hI eh7 d_Mod_addTo_45 (fun H locs hI => ?_)
        refine lv_aload_n hx hb d_Mod_addTo_46 rfl (lv_at hl 1 rfl) ?_
        obtain ⟨x8, ex8, hf⟩ := z_bs hf
        refine z_getF X hI (k := 1) (ci := 12) (gR_s ex8) i_Mod rfl (by decide) wf_Mod_13 d_Mod_addTo_47 ?_
        refine lv_iload_n hx hb d_Mod_addTo_50 rfl (lv_at hl 2 rfl) ?_
        refine lv_dup2_11 hx hb d_Mod_addTo_51 rfl rfl ?_
        obtain ⟨x9, ex9, hf⟩ := z_bs hf
        refine z_iald X hI ex9 d_Mod_addTo_52 ?_
        refine lv_iconst (v := 1) hx hb d_Mod_addTo_53 (by decide) ?_
        refine lv_iadd hx hb d_Mod_addTo_54 ?_
        obtain ⟨h10, eh10, hf⟩ := z_bs hf
        refine z_iast X hI eh10 d_Mod_addTo_55 (fun H locs hI => ?_)
        obtain ⟨x11, ex11, hf⟩ := z_bs hf
        refine lv_iinc (v := x11) (lv' := [(4, .int x11), (5, .int x2), (0, .ref v0), (1, .int v1), (2, .long v2)]) hx hb d_Mod_addTo_56 hl (k := 4) rfl (by rw [← Option.some.inj ex11]; rfl) (by decide) rfl (fun ls hl => ?_)
        refine lv_goto (tgt := 4) hx hb d_Mod_addTo_59 (by decide) ?_
        exact ih v0 v1 v2 x11 h10 _ _ _ hI (lv_sub hl [2, 3, 4, 0] rfl) hf
      · rw [if_pos c3] at hf
        refine lv_goto (tgt := 56) hx hb d_Mod_addTo_25 (by decide) ?_
        obtain ⟨x12, ex12, hf⟩ := z_bs hf
        refine lv_iinc (v := x12) (lv' := [(4, .int x12), (5, .int x2), (0, .ref v0), (1, .int v1), (2, .long v2)]) hx hb d_Mod_addTo_56 hl (k := 4) rfl (by rw [← Option.some.inj ex12]; rfl) (by decide) rfl (fun ls hl => ?_)
        refine lv_goto (tgt := 4) hx hb d_Mod_addTo_59 (by decide) ?_
        exact ih v0 v1 v2 x12 h _ _ _ hI (lv_sub hl [2, 3, 4, 0] rfl) hf
def f_Mod_addTo (N : Nat) (v0 : Nat) (v1 : Int32) (v2 : Int64) (h : z_H) : Option z_H :=
  f_Mod_addTo_4 N N v0 v1 v2 56 h
set_option maxRecDepth 20000 in
set_option maxHeartbeats 2000000 in
theorem s_Mod_addTo {l : Launch} {D : va_G} {dA : Nat → ClassId} {B N : Nat} {v0 : Nat} {v1 : Int32} {v2 : Int64} {h h' : z_H} (hf : f_Mod_addTo N v0 v1 v2 h = some h') : z_Met l y_Mod_addTo prog_14_method_8_code 6 none 0 0 D dA B [.ref v0, .int v1, .long v2] h none h' := by
  refine z_of (by decide) (Nat.le_of_ble_eq_true rfl) (fun p e s m below meth c ls X hI hl => ?_)
  have hx := z_hx X
  have hb := z_hb X
  have hl : lv_has ls 6 [(0, .ref v0), (1, .int v1), (2, .long v2)] := hl
  unfold f_Mod_addTo at hf
  obtain ⟨locs, hlo⟩ : ∃ z : List Loc, z = [] := ⟨_, rfl⟩
  rw [← hlo] at hI ⊢
  refine lv_bipush (v := 56) hx hb d_Mod_addTo_0 (by decide) ?_
  refine lv_istore (lv' := [(4, .int 56), (0, .ref v0), (1, .int v1), (2, .long v2)]) hx hb d_Mod_addTo_2 hl (by decide) rfl (fun ls hl => ?_)
  exact s_Mod_addTo_4 X  N v0 v1 v2 56 h _ _ _ hI (lv_sub hl [1, 2, 3, 0] rfl) hf
def f_Mod_line_16 (N : Nat)  (v0 : Nat) (h : z_H) : Option (Int32 × z_H) :=
  z_b (gO h v0 12) fun u1 =>
  z_b (f_Mod_fail N v0 1 h) fun r2 =>
  some (r2.1, r2.2)
set_option maxRecDepth 20000 in
set_option maxHeartbeats 2000000 in
theorem s_Mod_line_16 (X : z_X p s m args meth c prog_14_method_9_code 5 (some .int) Ts "StreamForgeModel" D dA B) {N : Nat} {r : Int32} {h' : z_H}   : ∀ (v0 : Nat) (h : z_H) (H : Heap) (locs : List Loc) (ls : Array Slot), z_I D dA B h s.heap H locs → lv_has ls 5 [(0, .ref v0)] → f_Mod_line_16 N  v0 h = some (r, h') → W p l e (z_rm 2 47) s m args below meth c H locs 0 0 (MQ below (z_Q D dA B (some (.int r)) h') args s 0 0 (fun q => B ≤ q)) (F0 m 16 ls []) := by
  have hx := z_hx X
  have hb := z_hb X
  intro v0 h H locs ls hI hl hf
  unfold f_Mod_line_16 at hf
  refine lv_aload_n hx hb d_Mod_line_16 rfl (lv_at hl 0 rfl) ?_
  refine lv_iconst (v := 1) hx hb d_Mod_line_17 (by decide) ?_
  obtain ⟨u1, eu1, hf⟩ := z_bs hf
  obtain ⟨r2, er2, hf⟩ := z_bs hf
  refine z_callV (As := [.int 1]) (rest := []) (r := (some (.int r2.1))) (h' := r2.2) X hI eu1 (s_Mod_fail er2) rfl rfl wm_Mod_162 yi_Mod_fail rfl hl.1 rfl (Nat.le_of_ble_eq_true rfl) (by decide) (by decide) d_Mod_line_18 (fun H locs hI => ?_)
  refine W.eq (g2 := F0 m 21 ls [.int (r2.1)]) rfl ?_
  cases hf
  exact z_iret X hI d_Mod_line_21
def f_Mod_line (N : Nat) (v0 : Nat) (v1 : Int64) (v3 : Int64) (h : z_H) : Option (Int32 × z_H) :=
  z_b (f_Mod_measure N v1 0 h) fun r1 =>
  if (r1.1) < 0 then
  (f_Mod_line_16 N v0 r1.2)
  else
  (z_b (f_Mod_measure N v3 0 r1.2) fun r3 =>
  if 0 ≤ (r3.1) then
  (z_b (gI r3.2 v0 12 4) fun x5 =>
  if x5 = 12 then
  (z_b (gO r3.2 v0 12) fun u20 =>
  z_b (f_Mod_fail N v0 2 r3.2) fun r21 =>
  some (r21.1, r21.2))
  else
  (z_b (sF r3.2 v0 12 6 (.int 0)) fun h7 =>
  z_b (gR h7 v0 12 1) fun x8 =>
  z_b (gI h7 v0 12 4) fun x9 =>
  z_b (uI h7 x8 0 x9 0) fun h10 =>
  z_b (gI h10 v0 12 4) fun x11 =>
  z_b (gO h10 v0 12) fun u12 =>
  z_b (f_Mod_addTo N v0 x11 v1 h10) fun r13 =>
  z_b (gI r13 v0 12 4) fun x14 =>
  z_b (gO r13 v0 12) fun u15 =>
  z_b (f_Mod_addTo N v0 x14 v3 r13) fun r16 =>
  z_b (gI r16 v0 12 4) fun x17 =>
  z_b (sF r16 v0 12 4 (.int (x17 + 1))) fun h18 =>
  z_b (gI h18 v0 12 4) fun x19 =>
  some (x19, h18)))
  else
  (f_Mod_line_16 N v0 r3.2))
set_option maxRecDepth 20000 in
set_option maxHeartbeats 2000000 in
theorem s_Mod_line {l : Launch} {D : va_G} {dA : Nat → ClassId} {B N : Nat} {v0 : Nat} {v1 : Int64} {v3 : Int64} {h h' : z_H} {r : Int32} (hf : f_Mod_line N v0 v1 v3 h = some (r, h')) : z_Met l y_Mod_line prog_14_method_9_code 5 (some .int) 2 47 D dA B [.ref v0, .long v1, .long v3] h (some (.int r)) h' := by
  refine z_of (by decide) (Nat.le_of_ble_eq_true rfl) (fun p e s m below meth c ls X hI hl => ?_)
  have hx := z_hx X
  have hb := z_hb X
  have hl : lv_has ls 5 [(0, .ref v0), (1, .long v1), (3, .long v3)] := hl
  unfold f_Mod_line at hf
  obtain ⟨locs, hlo⟩ : ∃ z : List Loc, z = [] := ⟨_, rfl⟩
  rw [← hlo] at hI ⊢
  refine lv_lload_n hx hb d_Mod_line_0 rfl (lv_at hl 1 rfl) ?_
  refine lv_iconst (v := 0) hx hb d_Mod_line_1 (by decide) ?_
  obtain ⟨r1, er1, hf⟩ := z_bs hf
  refine z_callS (As := [.long v1, .int 0]) (rest := []) (r := (some (.int r1.1))) (h' := r1.2) X hI (s_Mod_measure er1) rfl wm_Mod_158 yi_Mod_measure rfl hl.1 rfl (Nat.le_of_ble_eq_true rfl) (by decide) (by decide) d_Mod_line_2 (fun H locs hI => ?_)
  refine W.eq (g2 := F0 m 5 ls [.int (r1.1)]) rfl ?_
  refine lv_if_lt (tgt := 16) hx hb d_Mod_line_5 (by decide) (fun c2 => ?_) (fun c2 => ?_)
  · rw [if_pos c2] at hf
    exact s_Mod_line_16 X  v0 r1.2 _ _ _ hI (lv_sub hl [0] rfl) hf
  · rw [if_neg c2] at hf
    refine lv_lload_n hx hb d_Mod_line_8 rfl (lv_at hl 2 rfl) ?_
    refine lv_iconst (v := 0) hx hb d_Mod_line_9 (by decide) ?_
    obtain ⟨r3, er3, hf⟩ := z_bs hf
    refine z_callS (As := [.long v3, .int 0]) (rest := []) (r := (some (.int r3.1))) (h' := r3.2) X hI (s_Mod_measure er3) rfl wm_Mod_158 yi_Mod_measure rfl hl.1 rfl (Nat.le_of_ble_eq_true rfl) (by decide) (by decide) d_Mod_line_10 (fun H locs hI => ?_)
    refine W.eq (g2 := F0 m 13 ls [.int (r3.1)]) rfl ?_
    refine lv_if_ge (tgt := 22) hx hb d_Mod_line_13 (by decide) (fun c4 => ?_) (fun c4 => ?_)
    · rw [if_pos c4] at hf
      refine lv_aload_n hx hb d_Mod_line_22 rfl (lv_at hl 0 rfl) ?_
      obtain ⟨x5, ex5, hf⟩ := z_bs hf
      refine z_getF X hI (k := 4) (ci := 12) (gI_s ex5) i_Mod rfl (by decide) wf_Mod_169 d_Mod_line_23 ?_
      refine lv_bipush (v := 12) hx hb d_Mod_line_26 (by decide) ?_
      refine lv_icmp_ne (tgt := 37) hx hb d_Mod_line_28 (by decide) (fun c6 => ?_) (fun c6 => ?_)
      · rw [if_neg c6] at hf
        refine lv_aload_n hx hb d_Mod_line_37 rfl (lv_at hl 0 rfl) ?_
        refine lv_iconst (v := 0) hx hb d_Mod_line_38 (by decide) ?_
        obtain ⟨h7, eh7, hf⟩ := z_bs hf
        refine z_putF X hI (k := 6) (ci := 12) (ty0 := t_Mod) eh7 i_Mod t_Mod_ok n_Mod rfl (by decide) wf_Mod_151 rfl rfl rfl d_Mod_line_39 (fun H locs hI => ?_)
        refine lv_aload_n hx hb d_Mod_line_42 rfl (lv_at hl 0 rfl) ?_
        obtain ⟨x8, ex8, hf⟩ := z_bs hf
        refine z_getF X hI (k := 1) (ci := 12) (gR_s ex8) i_Mod rfl (by decide) wf_Mod_13 d_Mod_line_43 ?_
        refine lv_aload_n hx hb d_Mod_line_46 rfl (lv_at hl 0 rfl) ?_
        obtain ⟨x9, ex9, hf⟩ := z_bs hf
        refine z_getF X hI (k := 4) (ci := 12) (gI_s ex9) i_Mod rfl (by decide) wf_Mod_169 d_Mod_line_47 ?_
        refine lv_iconst (v := 0) hx hb d_Mod_line_50 (by decide) ?_
        obtain ⟨h10, eh10, hf⟩ := z_bs hf
        refine z_iast X hI eh10 d_Mod_line_51 (fun H locs hI => ?_)
        refine lv_aload_n hx hb d_Mod_line_52 rfl (lv_at hl 0 rfl) ?_
        refine lv_aload_n hx hb d_Mod_line_53 rfl (lv_at hl 0 rfl) ?_
        obtain ⟨x11, ex11, hf⟩ := z_bs hf
        refine z_getF X hI (k := 4) (ci := 12) (gI_s ex11) i_Mod rfl (by decide) wf_Mod_169 d_Mod_line_54 ?_
        refine lv_lload_n hx hb d_Mod_line_57 rfl (lv_at hl 1 rfl) ?_
        obtain ⟨u12, eu12, hf⟩ := z_bs hf
        obtain ⟨r13, er13, hf⟩ := z_bs hf
        refine z_callV (As := [.int x11, .long v1]) (rest := []) (r := none) (h' := r13) X hI eu12 (s_Mod_addTo er13) rfl rfl wm_Mod_172 yi_Mod_addTo rfl hl.1 rfl (Nat.le_of_ble_eq_true rfl) (by decide) (by decide) d_Mod_line_58 (fun H locs hI => ?_)
        refine W.eq (g2 := F0 m 61 ls []) rfl ?_
        refine lv_aload_n hx hb d_Mod_line_61 rfl (lv_at hl 0 rfl) ?_
        refine lv_aload_n hx hb d_Mod_line_62 rfl (lv_at hl 0 rfl) ?_
        obtain ⟨x14, ex14, hf⟩ := z_bs hf
        refine z_getF X hI (k := 4) (ci := 12) (gI_s ex14) i_Mod rfl (by decide) wf_Mod_169 d_Mod_line_63 ?_
        refine lv_lload_n hx hb d_Mod_line_66 rfl (lv_at hl 2 rfl) ?_
        obtain ⟨u15, eu15, hf⟩ := z_bs hf
        obtain ⟨r16, er16, hf⟩ := z_bs hf
        refine z_callV (As := [.int x14, .long v3]) (rest := []) (r := none) (h' := r16) X hI eu15 (s_Mod_addTo er16) rfl rfl wm_Mod_172 yi_Mod_addTo rfl hl.1 rfl (Nat.le_of_ble_eq_true rfl) (by decide) (by decide) d_Mod_line_67 (fun H locs hI => ?_)
        refine W.eq (g2 := F0 m 70 ls []) rfl ?_
        refine lv_aload_n hx hb d_Mod_line_70 rfl (lv_at hl 0 rfl) ?_
        refine lv_dup hx hb d_Mod_line_71 rfl ?_
        obtain ⟨x17, ex17, hf⟩ := z_bs hf
        refine z_getF X hI (k := 4) (ci := 12) (gI_s ex17) i_Mod rfl (by decide) wf_Mod_169 d_Mod_line_72 ?_
        refine lv_iconst (v := 1) hx hb d_Mod_line_75 (by decide) ?_
        refine lv_iadd hx hb d_Mod_line_76 ?_
        obtain ⟨h18, eh18, hf⟩ := z_bs hf
        refine z_putF X hI (k := 4) (ci := 12) (ty0 := t_Mod) eh18 i_Mod t_Mod_ok n_Mod rfl (by decide) wf_Mod_169 rfl rfl rfl d_Mod_line_77 (fun H locs hI => ?_)
        refine lv_aload_n hx hb d_Mod_line_80 rfl (lv_at hl 0 rfl) ?_
        obtain ⟨x19, ex19, hf⟩ := z_bs hf
        refine z_getF X hI (k := 4) (ci := 12) (gI_s ex19) i_Mod rfl (by decide) wf_Mod_169 d_Mod_line_81 ?_
        cases hf
        exact z_iret X hI d_Mod_line_84
      · rw [if_pos c6] at hf
        refine lv_aload_n hx hb d_Mod_line_31 rfl (lv_at hl 0 rfl) ?_
        refine lv_iconst (v := 2) hx hb d_Mod_line_32 (by decide) ?_
        obtain ⟨u20, eu20, hf⟩ := z_bs hf
        obtain ⟨r21, er21, hf⟩ := z_bs hf
        refine z_callV (As := [.int 2]) (rest := []) (r := (some (.int r21.1))) (h' := r21.2) X hI eu20 (s_Mod_fail er21) rfl rfl wm_Mod_162 yi_Mod_fail rfl hl.1 rfl (Nat.le_of_ble_eq_true rfl) (by decide) (by decide) d_Mod_line_33 (fun H locs hI => ?_)
        refine W.eq (g2 := F0 m 36 ls [.int (r21.1)]) rfl ?_
        cases hf
        exact z_iret X hI d_Mod_line_36
    · rw [if_neg c4] at hf
      exact s_Mod_line_16 X  v0 r3.2 _ _ _ hI (lv_sub hl [0] rfl) hf
def f_Mod_more_41 (N : Nat)  (v0 : Nat) (h : z_H) : Option (Int32 × z_H) :=
  z_b (gO h v0 12) fun u1 =>
  z_b (f_Mod_fail N v0 2 h) fun r2 =>
  some (r2.1, r2.2)
set_option maxRecDepth 20000 in
set_option maxHeartbeats 2000000 in
theorem s_Mod_more_41 (X : z_X p s m args meth c prog_14_method_10_code 4 (some .int) Ts "StreamForgeModel" D dA B) {N : Nat} {r : Int32} {h' : z_H}   : ∀ (v0 : Nat) (h : z_H) (H : Heap) (locs : List Loc) (ls : Array Slot), z_I D dA B h s.heap H locs → lv_has ls 4 [(0, .ref v0)] → f_Mod_more_41 N  v0 h = some (r, h') → W p l e (z_rm 2 47) s m args below meth c H locs 0 0 (MQ below (z_Q D dA B (some (.int r)) h') args s 0 0 (fun q => B ≤ q)) (F0 m 41 ls []) := by
  have hx := z_hx X
  have hb := z_hb X
  intro v0 h H locs ls hI hl hf
  unfold f_Mod_more_41 at hf
  refine lv_aload_n hx hb d_Mod_more_41 rfl (lv_at hl 0 rfl) ?_
  refine lv_iconst (v := 2) hx hb d_Mod_more_42 (by decide) ?_
  obtain ⟨u1, eu1, hf⟩ := z_bs hf
  obtain ⟨r2, er2, hf⟩ := z_bs hf
  refine z_callV (As := [.int 2]) (rest := []) (r := (some (.int r2.1))) (h' := r2.2) X hI eu1 (s_Mod_fail er2) rfl rfl wm_Mod_162 yi_Mod_fail rfl hl.1 rfl (Nat.le_of_ble_eq_true rfl) (by decide) (by decide) d_Mod_more_43 (fun H locs hI => ?_)
  refine W.eq (g2 := F0 m 46 ls [.int (r2.1)]) rfl ?_
  cases hf
  exact z_iret X hI d_Mod_more_46
def f_Mod_more (N : Nat) (v0 : Nat) (v1 : Int64) (h : z_H) : Option (Int32 × z_H) :=
  z_b (f_Mod_measure N v1 0 h) fun r1 =>
  z_b (some (r1.1)) fun x2 =>
  if 0 ≤ x2 then
  (z_b (gI r1.2 v0 12 4) fun x4 =>
  if x4 = 0 then
  (f_Mod_more_41 N v0 r1.2)
  else
  (z_b (gR r1.2 v0 12 1) fun x6 =>
  z_b (gI r1.2 v0 12 4) fun x7 =>
  z_b (aI r1.2 x6 0 (x7 - 1)) fun x8 =>
  if (x8 + x2) ≤ 24 then
  (z_b (sF r1.2 v0 12 6 (.int 0)) fun h10 =>
  z_b (gI h10 v0 12 4) fun x11 =>
  z_b (gO h10 v0 12) fun u12 =>
  z_b (f_Mod_addTo N v0 (x11 - 1) v1 h10) fun r13 =>
  z_b (gR r13 v0 12 1) fun x14 =>
  z_b (gI r13 v0 12 4) fun x15 =>
  z_b (aI r13 x14 0 (x15 - 1)) fun x16 =>
  some (x16, r13))
  else
  (f_Mod_more_41 N v0 r1.2)))
  else
  (z_b (gO r1.2 v0 12) fun u17 =>
  z_b (f_Mod_fail N v0 1 r1.2) fun r18 =>
  some (r18.1, r18.2))
set_option maxRecDepth 20000 in
set_option maxHeartbeats 2000000 in
theorem s_Mod_more {l : Launch} {D : va_G} {dA : Nat → ClassId} {B N : Nat} {v0 : Nat} {v1 : Int64} {h h' : z_H} {r : Int32} (hf : f_Mod_more N v0 v1 h = some (r, h')) : z_Met l y_Mod_more prog_14_method_10_code 4 (some .int) 2 47 D dA B [.ref v0, .long v1] h (some (.int r)) h' := by
  refine z_of (by decide) (Nat.le_of_ble_eq_true rfl) (fun p e s m below meth c ls X hI hl => ?_)
  have hx := z_hx X
  have hb := z_hb X
  have hl : lv_has ls 4 [(0, .ref v0), (1, .long v1)] := hl
  unfold f_Mod_more at hf
  obtain ⟨locs, hlo⟩ : ∃ z : List Loc, z = [] := ⟨_, rfl⟩
  rw [← hlo] at hI ⊢
  refine lv_lload_n hx hb d_Mod_more_0 rfl (lv_at hl 1 rfl) ?_
  refine lv_iconst (v := 0) hx hb d_Mod_more_1 (by decide) ?_
  obtain ⟨r1, er1, hf⟩ := z_bs hf
  refine z_callS (As := [.long v1, .int 0]) (rest := []) (r := (some (.int r1.1))) (h' := r1.2) X hI (s_Mod_measure er1) rfl wm_Mod_158 yi_Mod_measure rfl hl.1 rfl (Nat.le_of_ble_eq_true rfl) (by decide) (by decide) d_Mod_more_2 (fun H locs hI => ?_)
  refine W.eq (g2 := F0 m 5 ls [.int (r1.1)]) rfl ?_
  obtain ⟨x2, ex2, hf⟩ := z_bs hf
  refine z_topi (Option.some.inj ex2) ?_
  refine lv_istore_n (lv' := [(3, .int x2), (0, .ref v0), (1, .long v1)]) hx hb d_Mod_more_5 rfl hl (by decide) rfl (fun ls hl => ?_)
  refine lv_iload_n hx hb d_Mod_more_6 rfl (lv_at hl 0 rfl) ?_
  refine lv_if_ge (tgt := 16) hx hb d_Mod_more_7 (by decide) (fun c3 => ?_) (fun c3 => ?_)
  · rw [if_pos c3] at hf
    refine lv_aload_n hx hb d_Mod_more_16 rfl (lv_at hl 1 rfl) ?_
    obtain ⟨x4, ex4, hf⟩ := z_bs hf
    refine z_getF X hI (k := 4) (ci := 12) (gI_s ex4) i_Mod rfl (by decide) wf_Mod_169 d_Mod_more_17 ?_
    refine lv_if_eq (tgt := 41) hx hb d_Mod_more_20 (by decide) (fun c5 => ?_) (fun c5 => ?_)
    · rw [if_pos c5] at hf
      exact s_Mod_more_41 X  v0 r1.2 _ _ _ hI (lv_sub hl [1] rfl) hf
    · rw [if_neg c5] at hf
      refine lv_aload_n hx hb d_Mod_more_23 rfl (lv_at hl 1 rfl) ?_
      obtain ⟨x6, ex6, hf⟩ := z_bs hf
      refine z_getF X hI (k := 1) (ci := 12) (gR_s ex6) i_Mod rfl (by decide) wf_Mod_13 d_Mod_more_24 ?_
      refine lv_aload_n hx hb d_Mod_more_27 rfl (lv_at hl 1 rfl) ?_
      obtain ⟨x7, ex7, hf⟩ := z_bs hf
      refine z_getF X hI (k := 4) (ci := 12) (gI_s ex7) i_Mod rfl (by decide) wf_Mod_169 d_Mod_more_28 ?_
      refine lv_iconst (v := 1) hx hb d_Mod_more_31 (by decide) ?_
      refine lv_isub hx hb d_Mod_more_32 ?_
      obtain ⟨x8, ex8, hf⟩ := z_bs hf
      refine z_iald X hI ex8 d_Mod_more_33 ?_
      refine lv_iload_n hx hb d_Mod_more_34 rfl (lv_at hl 0 rfl) ?_
      refine lv_iadd hx hb d_Mod_more_35 ?_
      refine lv_bipush (v := 24) hx hb d_Mod_more_36 (by decide) ?_
      refine lv_icmp_le (tgt := 47) hx hb d_Mod_more_38 (by decide) (fun c9 => ?_) (fun c9 => ?_)
      · rw [if_pos c9] at hf
        refine lv_aload_n hx hb d_Mod_more_47 rfl (lv_at hl 1 rfl) ?_
        refine lv_iconst (v := 0) hx hb d_Mod_more_48 (by decide) ?_
        obtain ⟨h10, eh10, hf⟩ := z_bs hf
        refine z_putF X hI (k := 6) (ci := 12) (ty0 := t_Mod) eh10 i_Mod t_Mod_ok n_Mod rfl (by decide) wf_Mod_151 rfl rfl rfl d_Mod_more_49 (fun H locs hI => ?_)
        refine lv_aload_n hx hb d_Mod_more_52 rfl (lv_at hl 1 rfl) ?_
        refine lv_aload_n hx hb d_Mod_more_53 rfl (lv_at hl 1 rfl) ?_
        obtain ⟨x11, ex11, hf⟩ := z_bs hf
        refine z_getF X hI (k := 4) (ci := 12) (gI_s ex11) i_Mod rfl (by decide) wf_Mod_169 d_Mod_more_54 ?_
        refine lv_iconst (v := 1) hx hb d_Mod_more_57 (by decide) ?_
        refine lv_isub hx hb d_Mod_more_58 ?_
        refine lv_lload_n hx hb d_Mod_more_59 rfl (lv_at hl 2 rfl) ?_
        obtain ⟨u12, eu12, hf⟩ := z_bs hf
        obtain ⟨r13, er13, hf⟩ := z_bs hf
        refine z_callV (As := [.int (x11 - 1), .long v1]) (rest := []) (r := none) (h' := r13) X hI eu12 (s_Mod_addTo er13) rfl rfl wm_Mod_172 yi_Mod_addTo rfl hl.1 rfl (Nat.le_of_ble_eq_true rfl) (by decide) (by decide) d_Mod_more_60 (fun H locs hI => ?_)
        refine W.eq (g2 := F0 m 63 ls []) rfl ?_
        refine lv_aload_n hx hb d_Mod_more_63 rfl (lv_at hl 1 rfl) ?_
        obtain ⟨x14, ex14, hf⟩ := z_bs hf
        refine z_getF X hI (k := 1) (ci := 12) (gR_s ex14) i_Mod rfl (by decide) wf_Mod_13 d_Mod_more_64 ?_
        refine lv_aload_n hx hb d_Mod_more_67 rfl (lv_at hl 1 rfl) ?_
        obtain ⟨x15, ex15, hf⟩ := z_bs hf
        refine z_getF X hI (k := 4) (ci := 12) (gI_s ex15) i_Mod rfl (by decide) wf_Mod_169 d_Mod_more_68 ?_
        refine lv_iconst (v := 1) hx hb d_Mod_more_71 (by decide) ?_
        refine lv_isub hx hb d_Mod_more_72 ?_
        obtain ⟨x16, ex16, hf⟩ := z_bs hf
        refine z_iald X hI ex16 d_Mod_more_73 ?_
        cases hf
        exact z_iret X hI d_Mod_more_74
      · rw [if_neg c9] at hf
        exact s_Mod_more_41 X  v0 r1.2 _ _ _ hI (lv_sub hl [1] rfl) hf
  · rw [if_neg c3] at hf
    refine lv_aload_n hx hb d_Mod_more_10 rfl (lv_at hl 1 rfl) ?_
    refine lv_iconst (v := 1) hx hb d_Mod_more_11 (by decide) ?_
    obtain ⟨u17, eu17, hf⟩ := z_bs hf
    obtain ⟨r18, er18, hf⟩ := z_bs hf
    refine z_callV (As := [.int 1]) (rest := []) (r := (some (.int r18.1))) (h' := r18.2) X hI eu17 (s_Mod_fail er18) rfl rfl wm_Mod_162 yi_Mod_fail rfl hl.1 rfl (Nat.le_of_ble_eq_true rfl) (by decide) (by decide) d_Mod_more_12 (fun H locs hI => ?_)
    refine W.eq (g2 := F0 m 15 ls [.int (r18.1)]) rfl ?_
    cases hf
    exact z_iret X hI d_Mod_more_15
def f_Mod_here (N : Nat) (v0 : Nat) (h : z_H) : Option (Int32 × z_H) :=
  z_b (gI h v0 12 41) fun x1 =>
  z_b (gI h v0 12 3) fun x2 =>
  if x2 ≤ x1 then
  (some ((-1), h))
  else
  (z_b (gR h v0 12 0) fun x4 =>
  z_b (gI h v0 12 41) fun x5 =>
  z_b (aI h x4 0 x5) fun x6 =>
  some (x6, h))
set_option maxRecDepth 20000 in
set_option maxHeartbeats 2000000 in
theorem s_Mod_here {l : Launch} {D : va_G} {dA : Nat → ClassId} {B N : Nat} {v0 : Nat} {h h' : z_H} {r : Int32} (hf : f_Mod_here N v0 h = some (r, h')) : z_Met l y_Mod_here prog_14_method_11_code 1 (some .int) 0 0 D dA B [.ref v0] h (some (.int r)) h' := by
  refine z_of (by decide) (Nat.le_of_ble_eq_true rfl) (fun p e s m below meth c ls X hI hl => ?_)
  have hx := z_hx X
  have hb := z_hb X
  have hl : lv_has ls 1 [(0, .ref v0)] := hl
  unfold f_Mod_here at hf
  obtain ⟨locs, hlo⟩ : ∃ z : List Loc, z = [] := ⟨_, rfl⟩
  rw [← hlo] at hI ⊢
  refine lv_aload_n hx hb d_Mod_here_0 rfl (lv_at hl 0 rfl) ?_
  obtain ⟨x1, ex1, hf⟩ := z_bs hf
  refine z_getF X hI (k := 41) (ci := 12) (gI_s ex1) i_Mod rfl (by decide) wf_Mod_176 d_Mod_here_1 ?_
  refine lv_aload_n hx hb d_Mod_here_4 rfl (lv_at hl 0 rfl) ?_
  obtain ⟨x2, ex2, hf⟩ := z_bs hf
  refine z_getF X hI (k := 3) (ci := 12) (gI_s ex2) i_Mod rfl (by decide) wf_Mod_166 d_Mod_here_5 ?_
  refine lv_icmp_ge (tgt := 23) hx hb d_Mod_here_8 (by decide) (fun c3 => ?_) (fun c3 => ?_)
  · rw [if_pos c3] at hf
    refine lv_iconst (v := (-1)) hx hb d_Mod_here_23 (by decide) ?_
    cases hf
    exact z_iret X hI d_Mod_here_24
  · rw [if_neg c3] at hf
    refine lv_aload_n hx hb d_Mod_here_11 rfl (lv_at hl 0 rfl) ?_
    obtain ⟨x4, ex4, hf⟩ := z_bs hf
    refine z_getF X hI (k := 0) (ci := 12) (gR_s ex4) i_Mod rfl (by decide) wf_Mod_7 d_Mod_here_12 ?_
    refine lv_aload_n hx hb d_Mod_here_15 rfl (lv_at hl 0 rfl) ?_
    obtain ⟨x5, ex5, hf⟩ := z_bs hf
    refine z_getF X hI (k := 41) (ci := 12) (gI_s ex5) i_Mod rfl (by decide) wf_Mod_176 d_Mod_here_16 ?_
    obtain ⟨x6, ex6, hf⟩ := z_bs hf
    refine z_iald X hI ex6 d_Mod_here_19 ?_
    refine lv_goto (tgt := 24) hx hb d_Mod_here_20 (by decide) ?_
    cases hf
    exact z_iret X hI d_Mod_here_24
def f_Mod_behind (N : Nat) (v0 : Nat) (h : z_H) : Option (Int32 × z_H) :=
  z_b (gI h v0 12 41) fun x1 =>
  z_b (gI h v0 12 3) fun x2 =>
  if x2 ≤ (x1 + 1) then
  (some ((-1), h))
  else
  (z_b (gR h v0 12 0) fun x4 =>
  z_b (gI h v0 12 41) fun x5 =>
  z_b (aI h x4 0 (x5 + 1)) fun x6 =>
  some (x6, h))
set_option maxRecDepth 20000 in
set_option maxHeartbeats 2000000 in
theorem s_Mod_behind {l : Launch} {D : va_G} {dA : Nat → ClassId} {B N : Nat} {v0 : Nat} {h h' : z_H} {r : Int32} (hf : f_Mod_behind N v0 h = some (r, h')) : z_Met l y_Mod_behind prog_14_method_12_code 1 (some .int) 0 0 D dA B [.ref v0] h (some (.int r)) h' := by
  refine z_of (by decide) (Nat.le_of_ble_eq_true rfl) (fun p e s m below meth c ls X hI hl => ?_)
  have hx := z_hx X
  have hb := z_hb X
  have hl : lv_has ls 1 [(0, .ref v0)] := hl
  unfold f_Mod_behind at hf
  obtain ⟨locs, hlo⟩ : ∃ z : List Loc, z = [] := ⟨_, rfl⟩
  rw [← hlo] at hI ⊢
  refine lv_aload_n hx hb d_Mod_behind_0 rfl (lv_at hl 0 rfl) ?_
  obtain ⟨x1, ex1, hf⟩ := z_bs hf
  refine z_getF X hI (k := 41) (ci := 12) (gI_s ex1) i_Mod rfl (by decide) wf_Mod_176 d_Mod_behind_1 ?_
  refine lv_iconst (v := 1) hx hb d_Mod_behind_4 (by decide) ?_
  refine lv_iadd hx hb d_Mod_behind_5 ?_
  refine lv_aload_n hx hb d_Mod_behind_6 rfl (lv_at hl 0 rfl) ?_
  obtain ⟨x2, ex2, hf⟩ := z_bs hf
  refine z_getF X hI (k := 3) (ci := 12) (gI_s ex2) i_Mod rfl (by decide) wf_Mod_166 d_Mod_behind_7 ?_
  refine lv_icmp_ge (tgt := 27) hx hb d_Mod_behind_10 (by decide) (fun c3 => ?_) (fun c3 => ?_)
  · rw [if_pos c3] at hf
    refine lv_iconst (v := (-1)) hx hb d_Mod_behind_27 (by decide) ?_
    cases hf
    exact z_iret X hI d_Mod_behind_28
  · rw [if_neg c3] at hf
    refine lv_aload_n hx hb d_Mod_behind_13 rfl (lv_at hl 0 rfl) ?_
    obtain ⟨x4, ex4, hf⟩ := z_bs hf
    refine z_getF X hI (k := 0) (ci := 12) (gR_s ex4) i_Mod rfl (by decide) wf_Mod_7 d_Mod_behind_14 ?_
    refine lv_aload_n hx hb d_Mod_behind_17 rfl (lv_at hl 0 rfl) ?_
    obtain ⟨x5, ex5, hf⟩ := z_bs hf
    refine z_getF X hI (k := 41) (ci := 12) (gI_s ex5) i_Mod rfl (by decide) wf_Mod_176 d_Mod_behind_18 ?_
    refine lv_iconst (v := 1) hx hb d_Mod_behind_21 (by decide) ?_
    refine lv_iadd hx hb d_Mod_behind_22 ?_
    obtain ⟨x6, ex6, hf⟩ := z_bs hf
    refine z_iald X hI ex6 d_Mod_behind_23 ?_
    refine lv_goto (tgt := 28) hx hb d_Mod_behind_24 (by decide) ?_
    cases hf
    exact z_iret X hI d_Mod_behind_28
def f_Mod_wrong_12 (N : Nat)  (v0 : Nat) (h : z_H) : Option z_H :=
  z_b (sF h v0 12 48 (.int 1)) fun h1 =>
  some h1
set_option maxRecDepth 20000 in
set_option maxHeartbeats 2000000 in
theorem s_Mod_wrong_12 (X : z_X p s m args meth c prog_14_method_13_code 2 none Ts "StreamForgeModel" D dA B) {N : Nat} {h' : z_H}   : ∀ (v0 : Nat) (h : z_H) (H : Heap) (locs : List Loc) (ls : Array Slot), z_I D dA B h s.heap H locs → lv_has ls 2 [(0, .ref v0)] → f_Mod_wrong_12 N  v0 h = some h' → W p l e (z_rm 0 0) s m args below meth c H locs 0 0 (MQ below (z_Q D dA B none h') args s 0 0 (fun q => B ≤ q)) (F0 m 12 ls []) := by
  have hx := z_hx X
  have hb := z_hb X
  intro v0 h H locs ls hI hl hf
  unfold f_Mod_wrong_12 at hf
  refine lv_aload_n hx hb d_Mod_wrong_12 rfl (lv_at hl 0 rfl) ?_
  refine lv_iconst (v := 1) hx hb d_Mod_wrong_13 (by decide) ?_
  obtain ⟨h1, eh1, hf⟩ := z_bs hf
  refine z_putF X hI (k := 48) (ci := 12) (ty0 := t_Mod) eh1 i_Mod t_Mod_ok n_Mod rfl (by decide) wf_Mod_179 rfl rfl rfl d_Mod_wrong_14 (fun H locs hI => ?_)
  cases hf
  exact z_vret X hI d_Mod_wrong_17
def f_Mod_wrong (N : Nat) (v0 : Nat) (v1 : Int32) (h : z_H) : Option z_H :=
  z_b (gI h v0 12 48) fun x1 =>
  if x1 = 0 then
  (z_b (sF h v0 12 5 (.int v1)) fun h3 =>
  f_Mod_wrong_12 N v0 h3)
  else
  (f_Mod_wrong_12 N v0 h)
set_option maxRecDepth 20000 in
set_option maxHeartbeats 2000000 in
theorem s_Mod_wrong {l : Launch} {D : va_G} {dA : Nat → ClassId} {B N : Nat} {v0 : Nat} {v1 : Int32} {h h' : z_H} (hf : f_Mod_wrong N v0 v1 h = some h') : z_Met l y_Mod_wrong prog_14_method_13_code 2 none 0 0 D dA B [.ref v0, .int v1] h none h' := by
  refine z_of (by decide) (Nat.le_of_ble_eq_true rfl) (fun p e s m below meth c ls X hI hl => ?_)
  have hx := z_hx X
  have hb := z_hb X
  have hl : lv_has ls 2 [(0, .ref v0), (1, .int v1)] := hl
  unfold f_Mod_wrong at hf
  obtain ⟨locs, hlo⟩ : ∃ z : List Loc, z = [] := ⟨_, rfl⟩
  rw [← hlo] at hI ⊢
  refine lv_aload_n hx hb d_Mod_wrong_0 rfl (lv_at hl 0 rfl) ?_
  obtain ⟨x1, ex1, hf⟩ := z_bs hf
  refine z_getF X hI (k := 48) (ci := 12) (gI_s ex1) i_Mod rfl (by decide) wf_Mod_179 d_Mod_wrong_1 ?_
  refine lv_if_ne (tgt := 12) hx hb d_Mod_wrong_4 (by decide) (fun c2 => ?_) (fun c2 => ?_)
  · rw [if_neg c2] at hf
    exact s_Mod_wrong_12 X  v0 h _ _ _ hI (lv_sub hl [0] rfl) hf
  · rw [if_pos c2] at hf
    refine lv_aload_n hx hb d_Mod_wrong_7 rfl (lv_at hl 0 rfl) ?_
    refine lv_iload_n hx hb d_Mod_wrong_8 rfl (lv_at hl 1 rfl) ?_
    obtain ⟨h3, eh3, hf⟩ := z_bs hf
    refine z_putF X hI (k := 5) (ci := 12) (ty0 := t_Mod) eh3 i_Mod t_Mod_ok n_Mod rfl (by decide) wf_Mod_19 rfl rfl rfl d_Mod_wrong_9 (fun H locs hI => ?_)
    exact s_Mod_wrong_12 X  v0 h3 _ _ _ hI (lv_sub hl [0] rfl) hf
def f_Mod_expect (N : Nat) (v0 : Nat) (v1 : Int32) (h : z_H) : Option z_H :=
  z_b (gI h v0 12 48) fun x1 =>
  if x1 = 0 then
  (z_b (gO h v0 12) fun u3 =>
  z_b (f_Mod_here N v0 h) fun r4 =>
  if (r4.1) = v1 then
  (z_b (gI r4.2 v0 12 41) fun x9 =>
  z_b (sF r4.2 v0 12 41 (.int (x9 + 1))) fun h10 =>
  some h10)
  else
  (z_b (gI r4.2 v0 12 41) fun x6 =>
  z_b (gO r4.2 v0 12) fun u7 =>
  z_b (f_Mod_wrong N v0 x6 r4.2) fun r8 =>
  some r8))
  else
  (some h)
set_option maxRecDepth 20000 in
set_option maxHeartbeats 2000000 in
theorem s_Mod_expect {l : Launch} {D : va_G} {dA : Nat → ClassId} {B N : Nat} {v0 : Nat} {v1 : Int32} {h h' : z_H} (hf : f_Mod_expect N v0 v1 h = some h') : z_Met l y_Mod_expect prog_14_method_14_code 2 none 1 21 D dA B [.ref v0, .int v1] h none h' := by
  refine z_of (by decide) (Nat.le_of_ble_eq_true rfl) (fun p e s m below meth c ls X hI hl => ?_)
  have hx := z_hx X
  have hb := z_hb X
  have hl : lv_has ls 2 [(0, .ref v0), (1, .int v1)] := hl
  unfold f_Mod_expect at hf
  obtain ⟨locs, hlo⟩ : ∃ z : List Loc, z = [] := ⟨_, rfl⟩
  rw [← hlo] at hI ⊢
  refine lv_aload_n hx hb d_Mod_expect_0 rfl (lv_at hl 0 rfl) ?_
  obtain ⟨x1, ex1, hf⟩ := z_bs hf
  refine z_getF X hI (k := 48) (ci := 12) (gI_s ex1) i_Mod rfl (by decide) wf_Mod_179 d_Mod_expect_1 ?_
  refine lv_if_eq (tgt := 8) hx hb d_Mod_expect_4 (by decide) (fun c2 => ?_) (fun c2 => ?_)
  · rw [if_pos c2] at hf
    refine lv_aload_n hx hb d_Mod_expect_8 rfl (lv_at hl 0 rfl) ?_
    obtain ⟨u3, eu3, hf⟩ := z_bs hf
    obtain ⟨r4, er4, hf⟩ := z_bs hf
    refine z_callV (As := []) (rest := []) (r := (some (.int r4.1))) (h' := r4.2) X hI eu3 (s_Mod_here er4) rfl rfl wm_Mod_183 yi_Mod_here rfl hl.1 rfl (Nat.le_of_ble_eq_true rfl) (by decide) (by decide) d_Mod_expect_9 (fun H locs hI => ?_)
    refine W.eq (g2 := F0 m 12 ls [.int (r4.1)]) rfl ?_
    refine lv_iload_n hx hb d_Mod_expect_12 rfl (lv_at hl 1 rfl) ?_
    refine lv_icmp_ne (tgt := 29) hx hb d_Mod_expect_13 (by decide) (fun c5 => ?_) (fun c5 => ?_)
    · rw [if_neg c5] at hf
      refine lv_aload_n hx hb d_Mod_expect_29 rfl (lv_at hl 0 rfl) ?_
      refine lv_aload_n hx hb d_Mod_expect_30 rfl (lv_at hl 0 rfl) ?_
      obtain ⟨x6, ex6, hf⟩ := z_bs hf
      refine z_getF X hI (k := 41) (ci := 12) (gI_s ex6) i_Mod rfl (by decide) wf_Mod_176 d_Mod_expect_31 ?_
      obtain ⟨u7, eu7, hf⟩ := z_bs hf
      obtain ⟨r8, er8, hf⟩ := z_bs hf
      refine z_callV (As := [.int x6]) (rest := []) (r := none) (h' := r8) X hI eu7 (s_Mod_wrong er8) rfl rfl wm_Mod_187 yi_Mod_wrong rfl hl.1 rfl (Nat.le_of_ble_eq_true rfl) (by decide) (by decide) d_Mod_expect_34 (fun H locs hI => ?_)
      refine W.eq (g2 := F0 m 37 ls []) rfl ?_
      cases hf
      exact z_vret X hI d_Mod_expect_37
    · rw [if_pos c5] at hf
      refine lv_aload_n hx hb d_Mod_expect_16 rfl (lv_at hl 0 rfl) ?_
      refine lv_dup hx hb d_Mod_expect_17 rfl ?_
      obtain ⟨x9, ex9, hf⟩ := z_bs hf
      refine z_getF X hI (k := 41) (ci := 12) (gI_s ex9) i_Mod rfl (by decide) wf_Mod_176 d_Mod_expect_18 ?_
      refine lv_iconst (v := 1) hx hb d_Mod_expect_21 (by decide) ?_
      refine lv_iadd hx hb d_Mod_expect_22 ?_
      obtain ⟨h10, eh10, hf⟩ := z_bs hf
      refine z_putF X hI (k := 41) (ci := 12) (ty0 := t_Mod) eh10 i_Mod t_Mod_ok n_Mod rfl (by decide) wf_Mod_176 rfl rfl rfl d_Mod_expect_23 (fun H locs hI => ?_)
      refine lv_goto (tgt := 37) hx hb d_Mod_expect_26 (by decide) ?_
      cases hf
      exact z_vret X hI d_Mod_expect_37
  · rw [if_neg c2] at hf
    cases hf
    exact z_vret X hI d_Mod_expect_7
def f_Mod_keep (N : Nat) (v0 : Nat) (v1 : Int32) (h : z_H) : Option z_H :=
  z_b (gR h v0 12 33) fun x1 =>
  z_b (gI h v0 12 42) fun x2 =>
  z_b (gR h v0 12 27) fun x3 =>
  z_b (gI h v0 12 42) fun x4 =>
  z_b (aI h x3 0 x4) fun x5 =>
  z_b (uI h x1 0 ((300 * x2) + x5) v1) fun h6 =>
  z_b (gR h6 v0 12 27) fun x7 =>
  z_b (gI h6 v0 12 42) fun x8 =>
  z_b (aI h6 x7 0 x8) fun x9 =>
  z_b (uI h6 x7 0 x8 (x9 + 1)) fun h10 =>
  some h10
set_option maxRecDepth 20000 in
set_option maxHeartbeats 2000000 in
theorem s_Mod_keep {l : Launch} {D : va_G} {dA : Nat → ClassId} {B N : Nat} {v0 : Nat} {v1 : Int32} {h h' : z_H} (hf : f_Mod_keep N v0 v1 h = some h') : z_Met l y_Mod_keep prog_14_method_15_code 2 none 0 0 D dA B [.ref v0, .int v1] h none h' := by
  refine z_of (by decide) (Nat.le_of_ble_eq_true rfl) (fun p e s m below meth c ls X hI hl => ?_)
  have hx := z_hx X
  have hb := z_hb X
  have hl : lv_has ls 2 [(0, .ref v0), (1, .int v1)] := hl
  unfold f_Mod_keep at hf
  obtain ⟨locs, hlo⟩ : ∃ z : List Loc, z = [] := ⟨_, rfl⟩
  rw [← hlo] at hI ⊢
  refine lv_aload_n hx hb d_Mod_keep_0 rfl (lv_at hl 0 rfl) ?_
  obtain ⟨x1, ex1, hf⟩ := z_bs hf
  refine z_getF X hI (k := 33) (ci := 12) (gR_s ex1) i_Mod rfl (by decide) wf_Mod_96 d_Mod_keep_1 ?_
  refine lv_sipush (v := 300) hx hb d_Mod_keep_4 (by decide) ?_
  refine lv_aload_n hx hb d_Mod_keep_7 rfl (lv_at hl 0 rfl) ?_
  obtain ⟨x2, ex2, hf⟩ := z_bs hf
  refine z_getF X hI (k := 42) (ci := 12) (gI_s ex2) i_Mod rfl (by decide) wf_Mod_191 d_Mod_keep_8 ?_
  refine lv_imul hx hb d_Mod_keep_11 ?_
  refine lv_aload_n hx hb d_Mod_keep_12 rfl (lv_at hl 0 rfl) ?_
  obtain ⟨x3, ex3, hf⟩ := z_bs hf
  refine z_getF X hI (k := 27) (ci := 12) (gR_s ex3) i_Mod rfl (by decide) wf_Mod_78 d_Mod_keep_13 ?_
  refine lv_aload_n hx hb d_Mod_keep_16 rfl (lv_at hl 0 rfl) ?_
  obtain ⟨x4, ex4, hf⟩ := z_bs hf
  refine z_getF X hI (k := 42) (ci := 12) (gI_s ex4) i_Mod rfl (by decide) wf_Mod_191 d_Mod_keep_17 ?_
  obtain ⟨x5, ex5, hf⟩ := z_bs hf
  refine z_iald X hI ex5 d_Mod_keep_20 ?_
  refine lv_iadd hx hb d_Mod_keep_21 ?_
  refine lv_iload_n hx hb d_Mod_keep_22 rfl (lv_at hl 1 rfl) ?_
  obtain ⟨h6, eh6, hf⟩ := z_bs hf
  refine z_iast X hI eh6 d_Mod_keep_23 (fun H locs hI => ?_)
  refine lv_aload_n hx hb d_Mod_keep_24 rfl (lv_at hl 0 rfl) ?_
  obtain ⟨x7, ex7, hf⟩ := z_bs hf
  refine z_getF X hI (k := 27) (ci := 12) (gR_s ex7) i_Mod rfl (by decide) wf_Mod_78 d_Mod_keep_25 ?_
  refine lv_aload_n hx hb d_Mod_keep_28 rfl (lv_at hl 0 rfl) ?_
  obtain ⟨x8, ex8, hf⟩ := z_bs hf
  refine z_getF X hI (k := 42) (ci := 12) (gI_s ex8) i_Mod rfl (by decide) wf_Mod_191 d_Mod_keep_29 ?_
  refine lv_dup2_11 hx hb d_Mod_keep_32 rfl rfl ?_
  obtain ⟨x9, ex9, hf⟩ := z_bs hf
  refine z_iald X hI ex9 d_Mod_keep_33 ?_
  refine lv_iconst (v := 1) hx hb d_Mod_keep_34 (by decide) ?_
  refine lv_iadd hx hb d_Mod_keep_35 ?_
  obtain ⟨h10, eh10, hf⟩ := z_bs hf
  refine z_iast X hI eh10 d_Mod_keep_36 (fun H locs hI => ?_)
  cases hf
  exact z_vret X hI d_Mod_keep_37
def f_Mod_stored (N : Nat) (v0 : Nat) (h : z_H) : Option (Int32 × z_H) :=
  z_b (gI h v0 12 42) fun x1 =>
  z_b (gR h v0 12 27) fun x2 =>
  z_b (gI h v0 12 42) fun x3 =>
  z_b (aI h x2 0 x3) fun x4 =>
  some ((300 * x1) + x4, h)
set_option maxRecDepth 20000 in
set_option maxHeartbeats 2000000 in
theorem s_Mod_stored {l : Launch} {D : va_G} {dA : Nat → ClassId} {B N : Nat} {v0 : Nat} {h h' : z_H} {r : Int32} (hf : f_Mod_stored N v0 h = some (r, h')) : z_Met l y_Mod_stored prog_14_method_16_code 1 (some .int) 0 0 D dA B [.ref v0] h (some (.int r)) h' := by
  refine z_of (by decide) (Nat.le_of_ble_eq_true rfl) (fun p e s m below meth c ls X hI hl => ?_)
  have hx := z_hx X
  have hb := z_hb X
  have hl : lv_has ls 1 [(0, .ref v0)] := hl
  unfold f_Mod_stored at hf
  obtain ⟨locs, hlo⟩ : ∃ z : List Loc, z = [] := ⟨_, rfl⟩
  rw [← hlo] at hI ⊢
  refine lv_sipush (v := 300) hx hb d_Mod_stored_0 (by decide) ?_
  refine lv_aload_n hx hb d_Mod_stored_3 rfl (lv_at hl 0 rfl) ?_
  obtain ⟨x1, ex1, hf⟩ := z_bs hf
  refine z_getF X hI (k := 42) (ci := 12) (gI_s ex1) i_Mod rfl (by decide) wf_Mod_191 d_Mod_stored_4 ?_
  refine lv_imul hx hb d_Mod_stored_7 ?_
  refine lv_aload_n hx hb d_Mod_stored_8 rfl (lv_at hl 0 rfl) ?_
  obtain ⟨x2, ex2, hf⟩ := z_bs hf
  refine z_getF X hI (k := 27) (ci := 12) (gR_s ex2) i_Mod rfl (by decide) wf_Mod_78 d_Mod_stored_9 ?_
  refine lv_aload_n hx hb d_Mod_stored_12 rfl (lv_at hl 0 rfl) ?_
  obtain ⟨x3, ex3, hf⟩ := z_bs hf
  refine z_getF X hI (k := 42) (ci := 12) (gI_s ex3) i_Mod rfl (by decide) wf_Mod_191 d_Mod_stored_13 ?_
  obtain ⟨x4, ex4, hf⟩ := z_bs hf
  refine z_iald X hI ex4 d_Mod_stored_16 ?_
  refine lv_iadd hx hb d_Mod_stored_17 ?_
  cases hf
  exact z_iret X hI d_Mod_stored_18
def f_Mod_addItem_47 (N : Nat)  (v0 : Nat) (v1 : Int32) (v2 : Int32) (h : z_H) : Option z_H :=
  z_b (gI h v0 12 42) fun x1 =>
  z_b (gR h v0 12 26) fun x2 =>
  z_b (gI h v0 12 42) fun x3 =>
  z_b (aI h x2 0 x3) fun x4 =>
  z_b (some ((260 * x1) + x4)) fun x5 =>
  z_b (gR h v0 12 31) fun x6 =>
  z_b (uI h x6 0 x5 v1) fun h7 =>
  z_b (gR h7 v0 12 32) fun x8 =>
  z_b (uI h7 x8 0 x5 v2) fun h9 =>
  z_b (gR h9 v0 12 34) fun x10 =>
  z_b (uI h9 x10 3 x5 (vp_nar .boolean 0)) fun h11 =>
  z_b (gR h11 v0 12 37) fun x12 =>
  z_b (uL h11 x12 x5 0) fun h13 =>
  z_b (gR h13 v0 12 38) fun x14 =>
  z_b (uL h13 x14 x5 0) fun h15 =>
  z_b (gR h15 v0 12 26) fun x16 =>
  z_b (gI h15 v0 12 42) fun x17 =>
  z_b (aI h15 x16 0 x17) fun x18 =>
  z_b (uI h15 x16 0 x17 (x18 + 1)) fun h19 =>
  if 3 ≤ v1 then
  (z_b (sF h19 v0 12 50 (.int 0)) fun h21 =>
  some h21)
  else
  (z_b (sF h19 v0 12 50 (.int 1)) fun h22 =>
  some h22)
set_option maxRecDepth 20000 in
set_option maxHeartbeats 2000000 in
theorem s_Mod_addItem_47 (X : z_X p s m args meth c prog_14_method_17_code 6 none Ts "StreamForgeModel" D dA B) {N : Nat} {h' : z_H}   : ∀ (v0 : Nat) (v1 : Int32) (v2 : Int32) (h : z_H) (H : Heap) (locs : List Loc) (ls : Array Slot), z_I D dA B h s.heap H locs → lv_has ls 6 [(0, .ref v0), (1, .int v1), (2, .int v2)] → f_Mod_addItem_47 N  v0 v1 v2 h = some h' → W p l e (z_rm 1 21) s m args below meth c H locs 0 0 (MQ below (z_Q D dA B none h') args s 0 0 (fun q => B ≤ q)) (F0 m 47 ls []) := by
  have hx := z_hx X
  have hb := z_hb X
  intro v0 v1 v2 h H locs ls hI hl hf
  unfold f_Mod_addItem_47 at hf
  refine lv_sipush (v := 260) hx hb d_Mod_addItem_47 (by decide) ?_
  refine lv_aload_n hx hb d_Mod_addItem_50 rfl (lv_at hl 0 rfl) ?_
  obtain ⟨x1, ex1, hf⟩ := z_bs hf
  refine z_getF X hI (k := 42) (ci := 12) (gI_s ex1) i_Mod rfl (by decide) wf_Mod_191 d_Mod_addItem_51 ?_
  refine lv_imul hx hb d_Mod_addItem_54 ?_
  refine lv_aload_n hx hb d_Mod_addItem_55 rfl (lv_at hl 0 rfl) ?_
  obtain ⟨x2, ex2, hf⟩ := z_bs hf
  refine z_getF X hI (k := 26) (ci := 12) (gR_s ex2) i_Mod rfl (by decide) wf_Mod_75 d_Mod_addItem_56 ?_
  refine lv_aload_n hx hb d_Mod_addItem_59 rfl (lv_at hl 0 rfl) ?_
  obtain ⟨x3, ex3, hf⟩ := z_bs hf
  refine z_getF X hI (k := 42) (ci := 12) (gI_s ex3) i_Mod rfl (by decide) wf_Mod_191 d_Mod_addItem_60 ?_
  obtain ⟨x4, ex4, hf⟩ := z_bs hf
  refine z_iald X hI ex4 d_Mod_addItem_63 ?_
  refine lv_iadd hx hb d_Mod_addItem_64 ?_
  obtain ⟨x5, ex5, hf⟩ := z_bs hf
  refine z_topi (Option.some.inj ex5) ?_
  refine lv_istore (lv' := [(5, .int x5), (0, .ref v0), (1, .int v1), (2, .int v2)]) hx hb d_Mod_addItem_65 hl (by decide) rfl (fun ls hl => ?_)
  refine lv_aload_n hx hb d_Mod_addItem_67 rfl (lv_at hl 1 rfl) ?_
  obtain ⟨x6, ex6, hf⟩ := z_bs hf
  refine z_getF X hI (k := 31) (ci := 12) (gR_s ex6) i_Mod rfl (by decide) wf_Mod_90 d_Mod_addItem_68 ?_
  refine lv_iload hx hb d_Mod_addItem_71 (lv_at hl 0 rfl) ?_
  refine lv_iload_n hx hb d_Mod_addItem_73 rfl (lv_at hl 2 rfl) ?_
  obtain ⟨h7, eh7, hf⟩ := z_bs hf
  refine z_iast X hI eh7 d_Mod_addItem_74 (fun H locs hI => ?_)
  refine lv_aload_n hx hb d_Mod_addItem_75 rfl (lv_at hl 1 rfl) ?_
  obtain ⟨x8, ex8, hf⟩ := z_bs hf
  refine z_getF X hI (k := 32) (ci := 12) (gR_s ex8) i_Mod rfl (by decide) wf_Mod_93 d_Mod_addItem_76 ?_
  refine lv_iload hx hb d_Mod_addItem_79 (lv_at hl 0 rfl) ?_
  refine lv_iload_n hx hb d_Mod_addItem_81 rfl (lv_at hl 3 rfl) ?_
  obtain ⟨h9, eh9, hf⟩ := z_bs hf
  refine z_iast X hI eh9 d_Mod_addItem_82 (fun H locs hI => ?_)
  refine lv_aload_n hx hb d_Mod_addItem_83 rfl (lv_at hl 1 rfl) ?_
  obtain ⟨x10, ex10, hf⟩ := z_bs hf
  refine z_getF X hI (k := 34) (ci := 12) (gR_s ex10) i_Mod rfl (by decide) wf_Mod_99 d_Mod_addItem_84 ?_
  refine lv_iload hx hb d_Mod_addItem_87 (lv_at hl 0 rfl) ?_
  refine lv_iconst (v := 0) hx hb d_Mod_addItem_89 (by decide) ?_
  obtain ⟨h11, eh11, hf⟩ := z_bs hf
  refine z_zast X hI eh11 d_Mod_addItem_90 (fun H locs hI => ?_)
  refine lv_aload_n hx hb d_Mod_addItem_91 rfl (lv_at hl 1 rfl) ?_
  obtain ⟨x12, ex12, hf⟩ := z_bs hf
  refine z_getF X hI (k := 37) (ci := 12) (gR_s ex12) i_Mod rfl (by decide) wf_Mod_108 d_Mod_addItem_92 ?_
  refine lv_iload hx hb d_Mod_addItem_95 (lv_at hl 0 rfl) ?_
  refine lv_lconst (v := 0) hx hb d_Mod_addItem_97 (by decide) ?_
  obtain ⟨h13, eh13, hf⟩ := z_bs hf
  refine z_last X hI eh13 d_Mod_addItem_98 (fun H locs hI => ?_)
  refine lv_aload_n hx hb d_Mod_addItem_99 rfl (lv_at hl 1 rfl) ?_
  obtain ⟨x14, ex14, hf⟩ := z_bs hf
  refine z_getF X hI (k := 38) (ci := 12) (gR_s ex14) i_Mod rfl (by decide) wf_Mod_112 d_Mod_addItem_100 ?_
  refine lv_iload hx hb d_Mod_addItem_103 (lv_at hl 0 rfl) ?_
  refine lv_lconst (v := 0) hx hb d_Mod_addItem_105 (by decide) ?_
  obtain ⟨h15, eh15, hf⟩ := z_bs hf
  refine z_last X hI eh15 d_Mod_addItem_106 (fun H locs hI => ?_)
  refine lv_aload_n hx hb d_Mod_addItem_107 rfl (lv_at hl 1 rfl) ?_
  obtain ⟨x16, ex16, hf⟩ := z_bs hf
  refine z_getF X hI (k := 26) (ci := 12) (gR_s ex16) i_Mod rfl (by decide) wf_Mod_75 d_Mod_addItem_108 ?_
  refine lv_aload_n hx hb d_Mod_addItem_111 rfl (lv_at hl 1 rfl) ?_
  obtain ⟨x17, ex17, hf⟩ := z_bs hf
  refine z_getF X hI (k := 42) (ci := 12) (gI_s ex17) i_Mod rfl (by decide) wf_Mod_191 d_Mod_addItem_112 ?_
  refine lv_dup2_11 hx hb d_Mod_addItem_115 rfl rfl ?_
  obtain ⟨x18, ex18, hf⟩ := z_bs hf
  refine z_iald X hI ex18 d_Mod_addItem_116 ?_
  refine lv_iconst (v := 1) hx hb d_Mod_addItem_117 (by decide) ?_
  refine lv_iadd hx hb d_Mod_addItem_118 ?_
  obtain ⟨h19, eh19, hf⟩ := z_bs hf
  refine z_iast X hI eh19 d_Mod_addItem_119 (fun H locs hI => ?_)
  refine lv_aload_n hx hb d_Mod_addItem_120 rfl (lv_at hl 1 rfl) ?_
  refine lv_iload_n hx hb d_Mod_addItem_121 rfl (lv_at hl 2 rfl) ?_
  refine lv_iconst (v := 3) hx hb d_Mod_addItem_122 (by decide) ?_
  refine lv_icmp_ge (tgt := 130) hx hb d_Mod_addItem_123 (by decide) (fun c20 => ?_) (fun c20 => ?_)
  · rw [if_pos c20] at hf
    refine lv_iconst (v := 0) hx hb d_Mod_addItem_130 (by decide) ?_
    obtain ⟨h21, eh21, hf⟩ := z_bs hf
    refine z_putF X hI (k := 50) (ci := 12) (ty0 := t_Mod) eh21 i_Mod t_Mod_ok n_Mod rfl (by decide) wf_Mod_197 rfl rfl rfl d_Mod_addItem_131 (fun H locs hI => ?_)
    cases hf
    exact z_vret X hI d_Mod_addItem_134
  · rw [if_neg c20] at hf
    refine lv_iconst (v := 1) hx hb d_Mod_addItem_126 (by decide) ?_
    refine lv_goto (tgt := 131) hx hb d_Mod_addItem_127 (by decide) ?_
    obtain ⟨h22, eh22, hf⟩ := z_bs hf
    refine z_putF X hI (k := 50) (ci := 12) (ty0 := t_Mod) eh22 i_Mod t_Mod_ok n_Mod rfl (by decide) wf_Mod_197 rfl rfl rfl d_Mod_addItem_131 (fun H locs hI => ?_)
    cases hf
    exact z_vret X hI d_Mod_addItem_134
def f_Mod_addItem_32 (N : Nat)  (v0 : Nat) (v1 : Int32) (v2 : Int32) (v4 : Int32) (h : z_H) : Option z_H :=
  if v4 = 0 then
  (f_Mod_addItem_47 N v0 v1 v2 h)
  else
  (z_b (gI h v0 12 46) fun x2 =>
  z_b (sF h v0 12 46 (.int (x2 + 1))) fun h3 =>
  f_Mod_addItem_47 N v0 v1 v2 h3)
set_option maxRecDepth 20000 in
set_option maxHeartbeats 2000000 in
theorem s_Mod_addItem_32 (X : z_X p s m args meth c prog_14_method_17_code 6 none Ts "StreamForgeModel" D dA B) {N : Nat} {h' : z_H}   : ∀ (v0 : Nat) (v1 : Int32) (v2 : Int32) (v4 : Int32) (h : z_H) (H : Heap) (locs : List Loc) (ls : Array Slot), z_I D dA B h s.heap H locs → lv_has ls 6 [(0, .ref v0), (1, .int v1), (2, .int v2), (4, .int v4)] → f_Mod_addItem_32 N  v0 v1 v2 v4 h = some h' → W p l e (z_rm 1 21) s m args below meth c H locs 0 0 (MQ below (z_Q D dA B none h') args s 0 0 (fun q => B ≤ q)) (F0 m 32 ls []) := by
  have hx := z_hx X
  have hb := z_hb X
  intro v0 v1 v2 v4 h H locs ls hI hl hf
  unfold f_Mod_addItem_32 at hf
  refine lv_iload hx hb d_Mod_addItem_32 (lv_at hl 3 rfl) ?_
  refine lv_if_eq (tgt := 47) hx hb d_Mod_addItem_34 (by decide) (fun c1 => ?_) (fun c1 => ?_)
  · rw [if_pos c1] at hf
    exact s_Mod_addItem_47 X  v0 v1 v2 h _ _ _ hI (lv_sub hl [0, 1, 2] rfl) hf
  · rw [if_neg c1] at hf
    refine lv_aload_n hx hb d_Mod_addItem_37 rfl (lv_at hl 0 rfl) ?_
    refine lv_dup hx hb d_Mod_addItem_38 rfl ?_
    obtain ⟨x2, ex2, hf⟩ := z_bs hf
    refine z_getF X hI (k := 46) (ci := 12) (gI_s ex2) i_Mod rfl (by decide) wf_Mod_194 d_Mod_addItem_39 ?_
    refine lv_iconst (v := 1) hx hb d_Mod_addItem_42 (by decide) ?_
    refine lv_iadd hx hb d_Mod_addItem_43 ?_
    obtain ⟨h3, eh3, hf⟩ := z_bs hf
    refine z_putF X hI (k := 46) (ci := 12) (ty0 := t_Mod) eh3 i_Mod t_Mod_ok n_Mod rfl (by decide) wf_Mod_194 rfl rfl rfl d_Mod_addItem_44 (fun H locs hI => ?_)
    exact s_Mod_addItem_47 X  v0 v1 v2 h3 _ _ _ hI (lv_sub hl [0, 1, 2] rfl) hf
def f_Mod_addItem_10 (N : Nat)  (v0 : Nat) (v1 : Int32) (v2 : Int32) (v3 : Int32) (s0 : Int32) (h : z_H) : Option z_H :=
  if s0 = 0 then
  (f_Mod_addItem_32 N v0 v1 v2 s0 h)
  else
  (z_b (gI h v0 12 46) fun x2 =>
  if x2 = 14 then
  (z_b (gO h v0 12) fun u4 =>
  z_b (f_Mod_wrong N v0 v3 h) fun r5 =>
  some r5)
  else
  (f_Mod_addItem_32 N v0 v1 v2 s0 h))
set_option maxRecDepth 20000 in
set_option maxHeartbeats 2000000 in
theorem s_Mod_addItem_10 (X : z_X p s m args meth c prog_14_method_17_code 6 none Ts "StreamForgeModel" D dA B) {N : Nat} {h' : z_H}   : ∀ (v0 : Nat) (v1 : Int32) (v2 : Int32) (v3 : Int32) (s0 : Int32) (h : z_H) (H : Heap) (locs : List Loc) (ls : Array Slot), z_I D dA B h s.heap H locs → lv_has ls 6 [(0, .ref v0), (1, .int v1), (2, .int v2), (3, .int v3)] → f_Mod_addItem_10 N  v0 v1 v2 v3 s0 h = some h' → W p l e (z_rm 1 21) s m args below meth c H locs 0 0 (MQ below (z_Q D dA B none h') args s 0 0 (fun q => B ≤ q)) (F0 m 10 ls [.int s0]) := by
  have hx := z_hx X
  have hb := z_hb X
  intro v0 v1 v2 v3 s0 h H locs ls hI hl hf
  unfold f_Mod_addItem_10 at hf
  refine lv_istore (lv' := [(4, .int s0), (0, .ref v0), (1, .int v1), (2, .int v2), (3, .int v3)]) hx hb d_Mod_addItem_10 hl (by decide) rfl (fun ls hl => ?_)
  refine lv_iload hx hb d_Mod_addItem_12 (lv_at hl 0 rfl) ?_
  refine lv_if_eq (tgt := 32) hx hb d_Mod_addItem_14 (by decide) (fun c1 => ?_) (fun c1 => ?_)
  · rw [if_pos c1] at hf
    exact s_Mod_addItem_32 X  v0 v1 v2 s0 h _ _ _ hI (lv_sub hl [1, 2, 3, 0] rfl) hf
  · rw [if_neg c1] at hf
    refine lv_aload_n hx hb d_Mod_addItem_17 rfl (lv_at hl 1 rfl) ?_
    obtain ⟨x2, ex2, hf⟩ := z_bs hf
    refine z_getF X hI (k := 46) (ci := 12) (gI_s ex2) i_Mod rfl (by decide) wf_Mod_194 d_Mod_addItem_18 ?_
    refine lv_bipush (v := 14) hx hb d_Mod_addItem_21 (by decide) ?_
    refine lv_icmp_ne (tgt := 32) hx hb d_Mod_addItem_23 (by decide) (fun c3 => ?_) (fun c3 => ?_)
    · rw [if_neg c3] at hf
      exact s_Mod_addItem_32 X  v0 v1 v2 s0 h _ _ _ hI (lv_sub hl [1, 2, 3, 0] rfl) hf
    · rw [if_pos c3] at hf
      refine lv_aload_n hx hb d_Mod_addItem_26 rfl (lv_at hl 1 rfl) ?_
      refine lv_iload_n hx hb d_Mod_addItem_27 rfl (lv_at hl 4 rfl) ?_
      obtain ⟨u4, eu4, hf⟩ := z_bs hf
      obtain ⟨r5, er5, hf⟩ := z_bs hf
      refine z_callV (As := [.int v3]) (rest := []) (r := none) (h' := r5) X hI eu4 (s_Mod_wrong er5) rfl rfl wm_Mod_187 yi_Mod_wrong rfl hl.1 rfl (Nat.le_of_ble_eq_true rfl) (by decide) (by decide) d_Mod_addItem_28 (fun H locs hI => ?_)
      refine W.eq (g2 := F0 m 31 ls []) rfl ?_
      cases hf
      exact z_vret X hI d_Mod_addItem_31
def f_Mod_addItem (N : Nat) (v0 : Nat) (v1 : Int32) (v2 : Int32) (v3 : Int32) (h : z_H) : Option z_H :=
  if 4 ≤ v1 then
  (f_Mod_addItem_10 N v0 v1 v2 v3 0 h)
  else
  (f_Mod_addItem_10 N v0 v1 v2 v3 1 h)
set_option maxRecDepth 20000 in
set_option maxHeartbeats 2000000 in
theorem s_Mod_addItem {l : Launch} {D : va_G} {dA : Nat → ClassId} {B N : Nat} {v0 : Nat} {v1 : Int32} {v2 : Int32} {v3 : Int32} {h h' : z_H} (hf : f_Mod_addItem N v0 v1 v2 v3 h = some h') : z_Met l y_Mod_addItem prog_14_method_17_code 6 none 1 21 D dA B [.ref v0, .int v1, .int v2, .int v3] h none h' := by
  refine z_of (by decide) (Nat.le_of_ble_eq_true rfl) (fun p e s m below meth c ls X hI hl => ?_)
  have hx := z_hx X
  have hb := z_hb X
  have hl : lv_has ls 6 [(0, .ref v0), (1, .int v1), (2, .int v2), (3, .int v3)] := hl
  unfold f_Mod_addItem at hf
  obtain ⟨locs, hlo⟩ : ∃ z : List Loc, z = [] := ⟨_, rfl⟩
  rw [← hlo] at hI ⊢
  refine lv_iload_n hx hb d_Mod_addItem_0 rfl (lv_at hl 1 rfl) ?_
  refine lv_iconst (v := 4) hx hb d_Mod_addItem_1 (by decide) ?_
  refine lv_icmp_ge (tgt := 9) hx hb d_Mod_addItem_2 (by decide) (fun c1 => ?_) (fun c1 => ?_)
  · rw [if_pos c1] at hf
    refine lv_iconst (v := 0) hx hb d_Mod_addItem_9 (by decide) ?_
    exact s_Mod_addItem_10 X  v0 v1 v2 v3 0 h _ _ _ hI (lv_sub hl [0, 1, 2, 3] rfl) hf
  · rw [if_neg c1] at hf
    refine lv_iconst (v := 1) hx hb d_Mod_addItem_5 (by decide) ?_
    refine lv_goto (tgt := 10) hx hb d_Mod_addItem_6 (by decide) ?_
    exact s_Mod_addItem_10 X  v0 v1 v2 v3 1 h _ _ _ hI (lv_sub hl [0, 1, 2, 3] rfl) hf
def f_Mod_escaped_43 (N : Nat)  (s0 : Nat) (s1 : Int32) (h : z_H) : Option z_H :=
  z_b (gO h s0 12) fun u1 =>
  z_b (f_Mod_wrong N s0 s1 h) fun r2 =>
  some r2
set_option maxRecDepth 20000 in
set_option maxHeartbeats 2000000 in
theorem s_Mod_escaped_43 (X : z_X p s m args meth c prog_14_method_18_code 3 none Ts "StreamForgeModel" D dA B) {N : Nat} {h' : z_H}   : ∀ (s0 : Nat) (s1 : Int32) (h : z_H) (H : Heap) (locs : List Loc) (ls : Array Slot), z_I D dA B h s.heap H locs → lv_has ls 3 [] → f_Mod_escaped_43 N  s0 s1 h = some h' → W p l e (z_rm 2 46) s m args below meth c H locs 0 0 (MQ below (z_Q D dA B none h') args s 0 0 (fun q => B ≤ q)) (F0 m 43 ls [.int s1, .ref s0]) := by
  have hx := z_hx X
  have hb := z_hb X
  intro s0 s1 h H locs ls hI hl hf
  unfold f_Mod_escaped_43 at hf
  obtain ⟨u1, eu1, hf⟩ := z_bs hf
  obtain ⟨r2, er2, hf⟩ := z_bs hf
  refine z_callV (As := [.int s1]) (rest := []) (r := none) (h' := r2) X hI eu1 (s_Mod_wrong er2) rfl rfl wm_Mod_187 yi_Mod_wrong rfl hl.1 rfl (Nat.le_of_ble_eq_true rfl) (by decide) (by decide) d_Mod_escaped_43 (fun H locs hI => ?_)
  refine W.eq (g2 := F0 m 46 ls []) rfl ?_
  cases hf
  exact z_vret X hI d_Mod_escaped_46
def f_Mod_escaped_263 (N : Nat)  (v0 : Nat) (h : z_H) : Option z_H :=
  z_b (gI h v0 12 41) fun x1 =>
  z_b (sF h v0 12 41 (.int (x1 + 2))) fun h2 =>
  some h2
set_option maxRecDepth 20000 in
set_option maxHeartbeats 2000000 in
theorem s_Mod_escaped_263 (X : z_X p s m args meth c prog_14_method_18_code 3 none Ts "StreamForgeModel" D dA B) {N : Nat} {h' : z_H}   : ∀ (v0 : Nat) (h : z_H) (H : Heap) (locs : List Loc) (ls : Array Slot), z_I D dA B h s.heap H locs → lv_has ls 3 [(0, .ref v0)] → f_Mod_escaped_263 N  v0 h = some h' → W p l e (z_rm 2 46) s m args below meth c H locs 0 0 (MQ below (z_Q D dA B none h') args s 0 0 (fun q => B ≤ q)) (F0 m 263 ls []) := by
  have hx := z_hx X
  have hb := z_hb X
  intro v0 h H locs ls hI hl hf
  unfold f_Mod_escaped_263 at hf
  refine lv_aload_n hx hb d_Mod_escaped_263 rfl (lv_at hl 0 rfl) ?_
  refine lv_dup hx hb d_Mod_escaped_264 rfl ?_
  obtain ⟨x1, ex1, hf⟩ := z_bs hf
  refine z_getF X hI (k := 41) (ci := 12) (gI_s ex1) i_Mod rfl (by decide) wf_Mod_176 d_Mod_escaped_265 ?_
  refine lv_iconst (v := 2) hx hb d_Mod_escaped_268 (by decide) ?_
  refine lv_iadd hx hb d_Mod_escaped_269 ?_
  obtain ⟨h2, eh2, hf⟩ := z_bs hf
  refine z_putF X hI (k := 41) (ci := 12) (ty0 := t_Mod) eh2 i_Mod t_Mod_ok n_Mod rfl (by decide) wf_Mod_176 rfl rfl rfl d_Mod_escaped_270 (fun H locs hI => ?_)
  cases hf
  exact z_vret X hI d_Mod_escaped_273
def f_Mod_escaped_68 (N : Nat)  (v0 : Nat) (v1 : Int32) (h : z_H) : Option z_H :=
  z_b (gO h v0 12) fun u1 =>
  z_b (f_Mod_wrong N v0 v1 h) fun r2 =>
  f_Mod_escaped_263 N v0 r2
set_option maxRecDepth 20000 in
set_option maxHeartbeats 2000000 in
theorem s_Mod_escaped_68 (X : z_X p s m args meth c prog_14_method_18_code 3 none Ts "StreamForgeModel" D dA B) {N : Nat} {h' : z_H}   : ∀ (v0 : Nat) (v1 : Int32) (h : z_H) (H : Heap) (locs : List Loc) (ls : Array Slot), z_I D dA B h s.heap H locs → lv_has ls 3 [(0, .ref v0), (1, .int v1)] → f_Mod_escaped_68 N  v0 v1 h = some h' → W p l e (z_rm 2 46) s m args below meth c H locs 0 0 (MQ below (z_Q D dA B none h') args s 0 0 (fun q => B ≤ q)) (F0 m 68 ls []) := by
  have hx := z_hx X
  have hb := z_hb X
  intro v0 v1 h H locs ls hI hl hf
  unfold f_Mod_escaped_68 at hf
  refine lv_aload_n hx hb d_Mod_escaped_68 rfl (lv_at hl 0 rfl) ?_
  refine lv_iload_n hx hb d_Mod_escaped_69 rfl (lv_at hl 1 rfl) ?_
  obtain ⟨u1, eu1, hf⟩ := z_bs hf
  obtain ⟨r2, er2, hf⟩ := z_bs hf
  refine z_callV (As := [.int v1]) (rest := []) (r := none) (h' := r2) X hI eu1 (s_Mod_wrong er2) rfl rfl wm_Mod_187 yi_Mod_wrong rfl hl.1 rfl (Nat.le_of_ble_eq_true rfl) (by decide) (by decide) d_Mod_escaped_70 (fun H locs hI => ?_)
  refine W.eq (g2 := F0 m 73 ls []) rfl ?_
  refine lv_goto (tgt := 263) hx hb d_Mod_escaped_73 (by decide) ?_
  exact s_Mod_escaped_263 X  v0 r2 _ _ _ hI (lv_sub hl [0] rfl) hf
def f_Mod_escaped_137 (N : Nat)  (v0 : Nat) (h : z_H) : Option z_H :=
  z_b (sF h v0 12 49 (.int 0)) fun h1 =>
  f_Mod_escaped_263 N v0 h1
set_option maxRecDepth 20000 in
set_option maxHeartbeats 2000000 in
theorem s_Mod_escaped_137 (X : z_X p s m args meth c prog_14_method_18_code 3 none Ts "StreamForgeModel" D dA B) {N : Nat} {h' : z_H}   : ∀ (v0 : Nat) (h : z_H) (H : Heap) (locs : List Loc) (ls : Array Slot), z_I D dA B h s.heap H locs → lv_has ls 3 [(0, .ref v0)] → f_Mod_escaped_137 N  v0 h = some h' → W p l e (z_rm 2 46) s m args below meth c H locs 0 0 (MQ below (z_Q D dA B none h') args s 0 0 (fun q => B ≤ q)) (F0 m 137 ls []) := by
  have hx := z_hx X
  have hb := z_hb X
  intro v0 h H locs ls hI hl hf
  unfold f_Mod_escaped_137 at hf
  refine lv_aload_n hx hb d_Mod_escaped_137 rfl (lv_at hl 0 rfl) ?_
  refine lv_iconst (v := 0) hx hb d_Mod_escaped_138 (by decide) ?_
  obtain ⟨h1, eh1, hf⟩ := z_bs hf
  refine z_putF X hI (k := 49) (ci := 12) (ty0 := t_Mod) eh1 i_Mod t_Mod_ok n_Mod rfl (by decide) wf_Mod_203 rfl rfl rfl d_Mod_escaped_139 (fun H locs hI => ?_)
  refine lv_goto (tgt := 263) hx hb d_Mod_escaped_142 (by decide) ?_
  exact s_Mod_escaped_263 X  v0 h1 _ _ _ hI (lv_sub hl [0] rfl) hf
def f_Mod_escaped_185 (N : Nat)  (v0 : Nat) (v1 : Int32) (h : z_H) : Option z_H :=
  z_b (gO h v0 12) fun u1 =>
  z_b (f_Mod_wrong N v0 v1 h) fun r2 =>
  f_Mod_escaped_263 N v0 r2
set_option maxRecDepth 20000 in
set_option maxHeartbeats 2000000 in
theorem s_Mod_escaped_185 (X : z_X p s m args meth c prog_14_method_18_code 3 none Ts "StreamForgeModel" D dA B) {N : Nat} {h' : z_H}   : ∀ (v0 : Nat) (v1 : Int32) (h : z_H) (H : Heap) (locs : List Loc) (ls : Array Slot), z_I D dA B h s.heap H locs → lv_has ls 3 [(0, .ref v0), (1, .int v1)] → f_Mod_escaped_185 N  v0 v1 h = some h' → W p l e (z_rm 2 46) s m args below meth c H locs 0 0 (MQ below (z_Q D dA B none h') args s 0 0 (fun q => B ≤ q)) (F0 m 185 ls []) := by
  have hx := z_hx X
  have hb := z_hb X
  intro v0 v1 h H locs ls hI hl hf
  unfold f_Mod_escaped_185 at hf
  refine lv_aload_n hx hb d_Mod_escaped_185 rfl (lv_at hl 0 rfl) ?_
  refine lv_iload_n hx hb d_Mod_escaped_186 rfl (lv_at hl 1 rfl) ?_
  obtain ⟨u1, eu1, hf⟩ := z_bs hf
  obtain ⟨r2, er2, hf⟩ := z_bs hf
  refine z_callV (As := [.int v1]) (rest := []) (r := none) (h' := r2) X hI eu1 (s_Mod_wrong er2) rfl rfl wm_Mod_187 yi_Mod_wrong rfl hl.1 rfl (Nat.le_of_ble_eq_true rfl) (by decide) (by decide) d_Mod_escaped_187 (fun H locs hI => ?_)
  refine W.eq (g2 := F0 m 190 ls []) rfl ?_
  refine lv_goto (tgt := 263) hx hb d_Mod_escaped_190 (by decide) ?_
  exact s_Mod_escaped_263 X  v0 r2 _ _ _ hI (lv_sub hl [0] rfl) hf
def f_Mod_escaped_193 (N : Nat)  (v0 : Nat) (v1 : Int32) (v2 : Int32) (h : z_H) : Option z_H :=
  z_b (gO h v0 12) fun u1 =>
  z_b (f_Mod_addItem N v0 3 (v2 - 48) v1 h) fun r2 =>
  f_Mod_escaped_263 N v0 r2
set_option maxRecDepth 20000 in
set_option maxHeartbeats 2000000 in
theorem s_Mod_escaped_193 (X : z_X p s m args meth c prog_14_method_18_code 3 none Ts "StreamForgeModel" D dA B) {N : Nat} {h' : z_H}   : ∀ (v0 : Nat) (v1 : Int32) (v2 : Int32) (h : z_H) (H : Heap) (locs : List Loc) (ls : Array Slot), z_I D dA B h s.heap H locs → lv_has ls 3 [(0, .ref v0), (1, .int v1), (2, .int v2)] → f_Mod_escaped_193 N  v0 v1 v2 h = some h' → W p l e (z_rm 2 46) s m args below meth c H locs 0 0 (MQ below (z_Q D dA B none h') args s 0 0 (fun q => B ≤ q)) (F0 m 193 ls []) := by
  have hx := z_hx X
  have hb := z_hb X
  intro v0 v1 v2 h H locs ls hI hl hf
  unfold f_Mod_escaped_193 at hf
  refine lv_aload_n hx hb d_Mod_escaped_193 rfl (lv_at hl 0 rfl) ?_
  refine lv_iconst (v := 3) hx hb d_Mod_escaped_194 (by decide) ?_
  refine lv_iload_n hx hb d_Mod_escaped_195 rfl (lv_at hl 2 rfl) ?_
  refine lv_bipush (v := 48) hx hb d_Mod_escaped_196 (by decide) ?_
  refine lv_isub hx hb d_Mod_escaped_198 ?_
  refine lv_iload_n hx hb d_Mod_escaped_199 rfl (lv_at hl 1 rfl) ?_
  obtain ⟨u1, eu1, hf⟩ := z_bs hf
  obtain ⟨r2, er2, hf⟩ := z_bs hf
  refine z_callV (As := [.int 3, .int (v2 - 48), .int v1]) (rest := []) (r := none) (h' := r2) X hI eu1 (s_Mod_addItem er2) rfl rfl wm_Mod_209 yi_Mod_addItem rfl hl.1 rfl (Nat.le_of_ble_eq_true rfl) (by decide) (by decide) d_Mod_escaped_200 (fun H locs hI => ?_)
  refine W.eq (g2 := F0 m 203 ls []) rfl ?_
  refine lv_goto (tgt := 263) hx hb d_Mod_escaped_203 (by decide) ?_
  exact s_Mod_escaped_263 X  v0 r2 _ _ _ hI (lv_sub hl [0] rfl) hf
def f_Mod_escaped_248 (N : Nat)  (v0 : Nat) (v1 : Int32) (v2 : Int32) (h : z_H) : Option z_H :=
  z_b (gO h v0 12) fun u1 =>
  z_b (f_Mod_addItem N v0 0 v2 v1 h) fun r2 =>
  f_Mod_escaped_263 N v0 r2
set_option maxRecDepth 20000 in
set_option maxHeartbeats 2000000 in
theorem s_Mod_escaped_248 (X : z_X p s m args meth c prog_14_method_18_code 3 none Ts "StreamForgeModel" D dA B) {N : Nat} {h' : z_H}   : ∀ (v0 : Nat) (v1 : Int32) (v2 : Int32) (h : z_H) (H : Heap) (locs : List Loc) (ls : Array Slot), z_I D dA B h s.heap H locs → lv_has ls 3 [(0, .ref v0), (1, .int v1), (2, .int v2)] → f_Mod_escaped_248 N  v0 v1 v2 h = some h' → W p l e (z_rm 2 46) s m args below meth c H locs 0 0 (MQ below (z_Q D dA B none h') args s 0 0 (fun q => B ≤ q)) (F0 m 248 ls []) := by
  have hx := z_hx X
  have hb := z_hb X
  intro v0 v1 v2 h H locs ls hI hl hf
  unfold f_Mod_escaped_248 at hf
  refine lv_aload_n hx hb d_Mod_escaped_248 rfl (lv_at hl 0 rfl) ?_
  refine lv_iconst (v := 0) hx hb d_Mod_escaped_249 (by decide) ?_
  refine lv_iload_n hx hb d_Mod_escaped_250 rfl (lv_at hl 2 rfl) ?_
  refine lv_iload_n hx hb d_Mod_escaped_251 rfl (lv_at hl 1 rfl) ?_
  obtain ⟨u1, eu1, hf⟩ := z_bs hf
  obtain ⟨r2, er2, hf⟩ := z_bs hf
  refine z_callV (As := [.int 0, .int v2, .int v1]) (rest := []) (r := none) (h' := r2) X hI eu1 (s_Mod_addItem er2) rfl rfl wm_Mod_209 yi_Mod_addItem rfl hl.1 rfl (Nat.le_of_ble_eq_true rfl) (by decide) (by decide) d_Mod_escaped_252 (fun H locs hI => ?_)
  refine W.eq (g2 := F0 m 255 ls []) rfl ?_
  refine lv_goto (tgt := 263) hx hb d_Mod_escaped_255 (by decide) ?_
  exact s_Mod_escaped_263 X  v0 r2 _ _ _ hI (lv_sub hl [0] rfl) hf
def f_Mod_escaped (N : Nat) (v0 : Nat) (v1 : Int32) (h : z_H) : Option z_H :=
  z_b (gO h v0 12) fun u1 =>
  z_b (f_Mod_behind N v0 h) fun r2 =>
  z_b (some (r2.1)) fun x3 =>
  if x3 = (-1) then
  (z_b (gI r2.2 v0 12 46) fun x41 =>
  if x41 = 14 then
  (z_b (gI r2.2 v0 12 49) fun x44 =>
  if x44 = 0 then
  (z_b (gI r2.2 v0 12 44) fun x47 =>
  if x47 = 3 then
  (f_Mod_escaped_43 N v0 v1 r2.2)
  else
  (z_b (gI r2.2 v0 12 3) fun x49 =>
  f_Mod_escaped_43 N v0 x49 r2.2))
  else
  (z_b (gI r2.2 v0 12 3) fun x46 =>
  f_Mod_escaped_43 N v0 x46 r2.2))
  else
  (z_b (gI r2.2 v0 12 3) fun x43 =>
  f_Mod_escaped_43 N v0 x43 r2.2))
  else
  (if x3 = 40 then
  (z_b (gI r2.2 v0 12 49) fun x31 =>
  if x31 = 0 then
  (z_b (gI r2.2 v0 12 44) fun x33 =>
  if x33 = 3 then
  (f_Mod_escaped_68 N v0 v1 r2.2)
  else
  (z_b (gI r2.2 v0 12 44) fun x35 =>
  z_b (gO r2.2 v0 12) fun u36 =>
  z_b (f_Mod_addItem N v0 4 (x35 + 1) v1 r2.2) fun r37 =>
  z_b (sF r37 v0 12 49 (.int 1)) fun h38 =>
  z_b (gI h38 v0 12 44) fun x39 =>
  z_b (sF h38 v0 12 44 (.int (x39 + 1))) fun h40 =>
  f_Mod_escaped_263 N v0 h40))
  else
  (f_Mod_escaped_68 N v0 v1 r2.2))
  else
  (if x3 = 41 then
  (z_b (gI r2.2 v0 12 49) fun x24 =>
  if x24 = 0 then
  (z_b (gO r2.2 v0 12) fun u29 =>
  z_b (f_Mod_wrong N v0 v1 r2.2) fun r30 =>
  f_Mod_escaped_137 N v0 r30)
  else
  (z_b (gI r2.2 v0 12 44) fun x26 =>
  z_b (gO r2.2 v0 12) fun u27 =>
  z_b (f_Mod_addItem N v0 5 x26 v1 r2.2) fun r28 =>
  f_Mod_escaped_137 N v0 r28))
  else
  (z_b (f_Mod_in N x3 49 51 r2.2) fun r7 =>
  if (r7.1) = 0 then
  (if x3 = 47 then
  (f_Mod_escaped_248 N v0 v1 x3 r7.2)
  else
  (if x3 = 92 then
  (f_Mod_escaped_248 N v0 v1 x3 r7.2)
  else
  (if x3 = 91 then
  (f_Mod_escaped_248 N v0 v1 x3 r7.2)
  else
  (if x3 = 42 then
  (f_Mod_escaped_248 N v0 v1 x3 r7.2)
  else
  (if x3 = 46 then
  (f_Mod_escaped_248 N v0 v1 x3 r7.2)
  else
  (if x3 = 94 then
  (f_Mod_escaped_248 N v0 v1 x3 r7.2)
  else
  (if x3 = 36 then
  (f_Mod_escaped_248 N v0 v1 x3 r7.2)
  else
  (z_b (gO r7.2 v0 12) fun u16 =>
  z_b (f_Mod_wrong N v0 v1 r7.2) fun r17 =>
  f_Mod_escaped_263 N v0 r17))))))))
  else
  (z_b (gI r7.2 v0 12 44) fun x18 =>
  if x18 < (x3 - 48) then
  (f_Mod_escaped_185 N v0 v1 r7.2)
  else
  (z_b (gI r7.2 v0 12 44) fun x20 =>
  if (x3 - 48) = x20 then
  (z_b (gI r7.2 v0 12 49) fun x22 =>
  if x22 = 0 then
  (f_Mod_escaped_193 N v0 v1 x3 r7.2)
  else
  (f_Mod_escaped_185 N v0 v1 r7.2))
  else
  (f_Mod_escaped_193 N v0 v1 x3 r7.2))))))
set_option maxRecDepth 20000 in
set_option maxHeartbeats 2000000 in
theorem s_Mod_escaped {l : Launch} {D : va_G} {dA : Nat → ClassId} {B N : Nat} {v0 : Nat} {v1 : Int32} {h h' : z_H} (hf : f_Mod_escaped N v0 v1 h = some h') : z_Met l y_Mod_escaped prog_14_method_18_code 3 none 2 46 D dA B [.ref v0, .int v1] h none h' := by
  refine z_of (by decide) (Nat.le_of_ble_eq_true rfl) (fun p e s m below meth c ls X hI hl => ?_)
  have hx := z_hx X
  have hb := z_hb X
  have hl : lv_has ls 3 [(0, .ref v0), (1, .int v1)] := hl
  unfold f_Mod_escaped at hf
  obtain ⟨locs, hlo⟩ : ∃ z : List Loc, z = [] := ⟨_, rfl⟩
  rw [← hlo] at hI ⊢
  refine lv_aload_n hx hb d_Mod_escaped_0 rfl (lv_at hl 0 rfl) ?_
  obtain ⟨u1, eu1, hf⟩ := z_bs hf
  obtain ⟨r2, er2, hf⟩ := z_bs hf
  refine z_callV (As := []) (rest := []) (r := (some (.int r2.1))) (h' := r2.2) X hI eu1 (s_Mod_behind er2) rfl rfl wm_Mod_200 yi_Mod_behind rfl hl.1 rfl (Nat.le_of_ble_eq_true rfl) (by decide) (by decide) d_Mod_escaped_1 (fun H locs hI => ?_)
  refine W.eq (g2 := F0 m 4 ls [.int (r2.1)]) rfl ?_
  obtain ⟨x3, ex3, hf⟩ := z_bs hf
  refine z_topi (Option.some.inj ex3) ?_
  refine lv_istore_n (lv' := [(2, .int x3), (0, .ref v0), (1, .int v1)]) hx hb d_Mod_escaped_4 rfl hl (by decide) rfl (fun ls hl => ?_)
  refine lv_iload_n hx hb d_Mod_escaped_5 rfl (lv_at hl 0 rfl) ?_
  refine lv_iconst (v := (-1)) hx hb d_Mod_escaped_6 (by decide) ?_
  refine lv_icmp_ne (tgt := 47) hx hb d_Mod_escaped_7 (by decide) (fun c4 => ?_) (fun c4 => ?_)
  · rw [if_neg c4] at hf
    refine lv_iload_n hx hb d_Mod_escaped_47 rfl (lv_at hl 0 rfl) ?_
    refine lv_bipush (v := 40) hx hb d_Mod_escaped_48 (by decide) ?_
    refine lv_icmp_ne (tgt := 106) hx hb d_Mod_escaped_50 (by decide) (fun c5 => ?_) (fun c5 => ?_)
    · rw [if_neg c5] at hf
      refine lv_iload_n hx hb d_Mod_escaped_106 rfl (lv_at hl 0 rfl) ?_
      refine lv_bipush (v := 41) hx hb d_Mod_escaped_107 (by decide) ?_
      refine lv_icmp_ne (tgt := 145) hx hb d_Mod_escaped_109 (by decide) (fun c6 => ?_) (fun c6 => ?_)
      · rw [if_neg c6] at hf
        refine lv_iload_n hx hb d_Mod_escaped_145 rfl (lv_at hl 0 rfl) ?_
        refine lv_bipush (v := 49) hx hb d_Mod_escaped_146 (by decide) ?_
        refine lv_bipush (v := 51) hx hb d_Mod_escaped_148 (by decide) ?_
        obtain ⟨r7, er7, hf⟩ := z_bs hf
        refine z_callS (As := [.int x3, .int 49, .int 51]) (rest := []) (r := (some (.int r7.1))) (h' := r7.2) X hI (s_Mod_in er7) rfl wm_Mod_154 yi_Mod_in rfl hl.1 rfl (Nat.le_of_ble_eq_true rfl) (by decide) (by decide) d_Mod_escaped_150 (fun H locs hI => ?_)
        refine W.eq (g2 := F0 m 153 ls [.int (r7.1)]) rfl ?_
        refine lv_if_eq (tgt := 206) hx hb d_Mod_escaped_153 (by decide) (fun c8 => ?_) (fun c8 => ?_)
        · rw [if_pos c8] at hf
          refine lv_iload_n hx hb d_Mod_escaped_206 rfl (lv_at hl 0 rfl) ?_
          refine lv_bipush (v := 47) hx hb d_Mod_escaped_207 (by decide) ?_
          refine lv_icmp_eq (tgt := 248) hx hb d_Mod_escaped_209 (by decide) (fun c9 => ?_) (fun c9 => ?_)
          · rw [if_pos c9] at hf
            exact s_Mod_escaped_248 X  v0 v1 x3 r7.2 _ _ _ hI (lv_sub hl [1, 2, 0] rfl) hf
          · rw [if_neg c9] at hf
            refine lv_iload_n hx hb d_Mod_escaped_212 rfl (lv_at hl 0 rfl) ?_
            refine lv_bipush (v := 92) hx hb d_Mod_escaped_213 (by decide) ?_
            refine lv_icmp_eq (tgt := 248) hx hb d_Mod_escaped_215 (by decide) (fun c10 => ?_) (fun c10 => ?_)
            · rw [if_pos c10] at hf
              exact s_Mod_escaped_248 X  v0 v1 x3 r7.2 _ _ _ hI (lv_sub hl [1, 2, 0] rfl) hf
            · rw [if_neg c10] at hf
              refine lv_iload_n hx hb d_Mod_escaped_218 rfl (lv_at hl 0 rfl) ?_
              refine lv_bipush (v := 91) hx hb d_Mod_escaped_219 (by decide) ?_
              refine lv_icmp_eq (tgt := 248) hx hb d_Mod_escaped_221 (by decide) (fun c11 => ?_) (fun c11 => ?_)
              · rw [if_pos c11] at hf
                exact s_Mod_escaped_248 X  v0 v1 x3 r7.2 _ _ _ hI (lv_sub hl [1, 2, 0] rfl) hf
              · rw [if_neg c11] at hf
                refine lv_iload_n hx hb d_Mod_escaped_224 rfl (lv_at hl 0 rfl) ?_
                refine lv_bipush (v := 42) hx hb d_Mod_escaped_225 (by decide) ?_
                refine lv_icmp_eq (tgt := 248) hx hb d_Mod_escaped_227 (by decide) (fun c12 => ?_) (fun c12 => ?_)
                · rw [if_pos c12] at hf
                  exact s_Mod_escaped_248 X  v0 v1 x3 r7.2 _ _ _ hI (lv_sub hl [1, 2, 0] rfl) hf
                · rw [if_neg c12] at hf
                  refine lv_iload_n hx hb d_Mod_escaped_230 rfl (lv_at hl 0 rfl) ?_
                  refine lv_bipush (v := 46) hx hb d_Mod_escaped_231 (by decide) ?_
                  refine lv_icmp_eq (tgt := 248) hx hb d_Mod_escaped_233 (by decide) (fun c13 => ?_) (fun c13 => ?_)
                  · rw [if_pos c13] at hf
                    exact s_Mod_escaped_248 X  v0 v1 x3 r7.2 _ _ _ hI (lv_sub hl [1, 2, 0] rfl) hf
                  · rw [if_neg c13] at hf
                    refine lv_iload_n hx hb d_Mod_escaped_236 rfl (lv_at hl 0 rfl) ?_
                    refine lv_bipush (v := 94) hx hb d_Mod_escaped_237 (by decide) ?_
                    refine lv_icmp_eq (tgt := 248) hx hb d_Mod_escaped_239 (by decide) (fun c14 => ?_) (fun c14 => ?_)
                    · rw [if_pos c14] at hf
                      exact s_Mod_escaped_248 X  v0 v1 x3 r7.2 _ _ _ hI (lv_sub hl [1, 2, 0] rfl) hf
                    · rw [if_neg c14] at hf
                      refine lv_iload_n hx hb d_Mod_escaped_242 rfl (lv_at hl 0 rfl) ?_
                      refine lv_bipush (v := 36) hx hb d_Mod_escaped_243 (by decide) ?_
                      refine lv_icmp_ne (tgt := 258) hx hb d_Mod_escaped_245 (by decide) (fun c15 => ?_) (fun c15 => ?_)
                      · rw [if_neg c15] at hf
                        refine lv_aload_n hx hb d_Mod_escaped_258 rfl (lv_at hl 1 rfl) ?_
                        refine lv_iload_n hx hb d_Mod_escaped_259 rfl (lv_at hl 2 rfl) ?_
                        obtain ⟨u16, eu16, hf⟩ := z_bs hf
                        obtain ⟨r17, er17, hf⟩ := z_bs hf
                        refine z_callV (As := [.int v1]) (rest := []) (r := none) (h' := r17) X hI eu16 (s_Mod_wrong er17) rfl rfl wm_Mod_187 yi_Mod_wrong rfl hl.1 rfl (Nat.le_of_ble_eq_true rfl) (by decide) (by decide) d_Mod_escaped_260 (fun H locs hI => ?_)
                        refine W.eq (g2 := F0 m 263 ls []) rfl ?_
                        exact s_Mod_escaped_263 X  v0 r17 _ _ _ hI (lv_sub hl [1] rfl) hf
                      · rw [if_pos c15] at hf
                        exact s_Mod_escaped_248 X  v0 v1 x3 r7.2 _ _ _ hI (lv_sub hl [1, 2, 0] rfl) hf
        · rw [if_neg c8] at hf
          refine lv_iload_n hx hb d_Mod_escaped_156 rfl (lv_at hl 0 rfl) ?_
          refine lv_bipush (v := 48) hx hb d_Mod_escaped_157 (by decide) ?_
          refine lv_isub hx hb d_Mod_escaped_159 ?_
          refine lv_aload_n hx hb d_Mod_escaped_160 rfl (lv_at hl 1 rfl) ?_
          obtain ⟨x18, ex18, hf⟩ := z_bs hf
          refine z_getF X hI (k := 44) (ci := 12) (gI_s ex18) i_Mod rfl (by decide) wf_Mod_206 d_Mod_escaped_161 ?_
          refine lv_icmp_gt (tgt := 185) hx hb d_Mod_escaped_164 (by decide) (fun c19 => ?_) (fun c19 => ?_)
          · rw [if_pos c19] at hf
            exact s_Mod_escaped_185 X  v0 v1 r7.2 _ _ _ hI (lv_sub hl [1, 2] rfl) hf
          · rw [if_neg c19] at hf
            refine lv_iload_n hx hb d_Mod_escaped_167 rfl (lv_at hl 0 rfl) ?_
            refine lv_bipush (v := 48) hx hb d_Mod_escaped_168 (by decide) ?_
            refine lv_isub hx hb d_Mod_escaped_170 ?_
            refine lv_aload_n hx hb d_Mod_escaped_171 rfl (lv_at hl 1 rfl) ?_
            obtain ⟨x20, ex20, hf⟩ := z_bs hf
            refine z_getF X hI (k := 44) (ci := 12) (gI_s ex20) i_Mod rfl (by decide) wf_Mod_206 d_Mod_escaped_172 ?_
            refine lv_icmp_ne (tgt := 193) hx hb d_Mod_escaped_175 (by decide) (fun c21 => ?_) (fun c21 => ?_)
            · rw [if_neg c21] at hf
              exact s_Mod_escaped_193 X  v0 v1 x3 r7.2 _ _ _ hI (lv_sub hl [1, 2, 0] rfl) hf
            · rw [if_pos c21] at hf
              refine lv_aload_n hx hb d_Mod_escaped_178 rfl (lv_at hl 1 rfl) ?_
              obtain ⟨x22, ex22, hf⟩ := z_bs hf
              refine z_getF X hI (k := 49) (ci := 12) (gI_s ex22) i_Mod rfl (by decide) wf_Mod_203 d_Mod_escaped_179 ?_
              refine lv_if_eq (tgt := 193) hx hb d_Mod_escaped_182 (by decide) (fun c23 => ?_) (fun c23 => ?_)
              · rw [if_pos c23] at hf
                exact s_Mod_escaped_193 X  v0 v1 x3 r7.2 _ _ _ hI (lv_sub hl [1, 2, 0] rfl) hf
              · rw [if_neg c23] at hf
                exact s_Mod_escaped_185 X  v0 v1 r7.2 _ _ _ hI (lv_sub hl [1, 2] rfl) hf
      · rw [if_pos c6] at hf
        refine lv_aload_n hx hb d_Mod_escaped_112 rfl (lv_at hl 1 rfl) ?_
        obtain ⟨x24, ex24, hf⟩ := z_bs hf
        refine z_getF X hI (k := 49) (ci := 12) (gI_s ex24) i_Mod rfl (by decide) wf_Mod_203 d_Mod_escaped_113 ?_
        refine lv_if_ne (tgt := 127) hx hb d_Mod_escaped_116 (by decide) (fun c25 => ?_) (fun c25 => ?_)
        · rw [if_neg c25] at hf
          refine lv_aload_n hx hb d_Mod_escaped_127 rfl (lv_at hl 1 rfl) ?_
          refine lv_iconst (v := 5) hx hb d_Mod_escaped_128 (by decide) ?_
          refine lv_aload_n hx hb d_Mod_escaped_129 rfl (lv_at hl 1 rfl) ?_
          obtain ⟨x26, ex26, hf⟩ := z_bs hf
          refine z_getF X hI (k := 44) (ci := 12) (gI_s ex26) i_Mod rfl (by decide) wf_Mod_206 d_Mod_escaped_130 ?_
          refine lv_iload_n hx hb d_Mod_escaped_133 rfl (lv_at hl 2 rfl) ?_
          obtain ⟨u27, eu27, hf⟩ := z_bs hf
          obtain ⟨r28, er28, hf⟩ := z_bs hf
          refine z_callV (As := [.int 5, .int x26, .int v1]) (rest := []) (r := none) (h' := r28) X hI eu27 (s_Mod_addItem er28) rfl rfl wm_Mod_209 yi_Mod_addItem rfl hl.1 rfl (Nat.le_of_ble_eq_true rfl) (by decide) (by decide) d_Mod_escaped_134 (fun H locs hI => ?_)
          refine W.eq (g2 := F0 m 137 ls []) rfl ?_
          exact s_Mod_escaped_137 X  v0 r28 _ _ _ hI (lv_sub hl [1] rfl) hf
        · rw [if_pos c25] at hf
          refine lv_aload_n hx hb d_Mod_escaped_119 rfl (lv_at hl 1 rfl) ?_
          refine lv_iload_n hx hb d_Mod_escaped_120 rfl (lv_at hl 2 rfl) ?_
          obtain ⟨u29, eu29, hf⟩ := z_bs hf
          obtain ⟨r30, er30, hf⟩ := z_bs hf
          refine z_callV (As := [.int v1]) (rest := []) (r := none) (h' := r30) X hI eu29 (s_Mod_wrong er30) rfl rfl wm_Mod_187 yi_Mod_wrong rfl hl.1 rfl (Nat.le_of_ble_eq_true rfl) (by decide) (by decide) d_Mod_escaped_121 (fun H locs hI => ?_)
          refine W.eq (g2 := F0 m 124 ls []) rfl ?_
          refine lv_goto (tgt := 137) hx hb d_Mod_escaped_124 (by decide) ?_
          exact s_Mod_escaped_137 X  v0 r30 _ _ _ hI (lv_sub hl [1] rfl) hf
    · rw [if_pos c5] at hf
      refine lv_aload_n hx hb d_Mod_escaped_53 rfl (lv_at hl 1 rfl) ?_
      obtain ⟨x31, ex31, hf⟩ := z_bs hf
      refine z_getF X hI (k := 49) (ci := 12) (gI_s ex31) i_Mod rfl (by decide) wf_Mod_203 d_Mod_escaped_54 ?_
      refine lv_if_ne (tgt := 68) hx hb d_Mod_escaped_57 (by decide) (fun c32 => ?_) (fun c32 => ?_)
      · rw [if_neg c32] at hf
        exact s_Mod_escaped_68 X  v0 v1 r2.2 _ _ _ hI (lv_sub hl [1, 2] rfl) hf
      · rw [if_pos c32] at hf
        refine lv_aload_n hx hb d_Mod_escaped_60 rfl (lv_at hl 1 rfl) ?_
        obtain ⟨x33, ex33, hf⟩ := z_bs hf
        refine z_getF X hI (k := 44) (ci := 12) (gI_s ex33) i_Mod rfl (by decide) wf_Mod_206 d_Mod_escaped_61 ?_
        refine lv_iconst (v := 3) hx hb d_Mod_escaped_64 (by decide) ?_
        refine lv_icmp_ne (tgt := 76) hx hb d_Mod_escaped_65 (by decide) (fun c34 => ?_) (fun c34 => ?_)
        · rw [if_neg c34] at hf
          refine lv_aload_n hx hb d_Mod_escaped_76 rfl (lv_at hl 1 rfl) ?_
          refine lv_iconst (v := 4) hx hb d_Mod_escaped_77 (by decide) ?_
          refine lv_aload_n hx hb d_Mod_escaped_78 rfl (lv_at hl 1 rfl) ?_
          obtain ⟨x35, ex35, hf⟩ := z_bs hf
          refine z_getF X hI (k := 44) (ci := 12) (gI_s ex35) i_Mod rfl (by decide) wf_Mod_206 d_Mod_escaped_79 ?_
          refine lv_iconst (v := 1) hx hb d_Mod_escaped_82 (by decide) ?_
          refine lv_iadd hx hb d_Mod_escaped_83 ?_
          refine lv_iload_n hx hb d_Mod_escaped_84 rfl (lv_at hl 2 rfl) ?_
          obtain ⟨u36, eu36, hf⟩ := z_bs hf
          obtain ⟨r37, er37, hf⟩ := z_bs hf
          refine z_callV (As := [.int 4, .int (x35 + 1), .int v1]) (rest := []) (r := none) (h' := r37) X hI eu36 (s_Mod_addItem er37) rfl rfl wm_Mod_209 yi_Mod_addItem rfl hl.1 rfl (Nat.le_of_ble_eq_true rfl) (by decide) (by decide) d_Mod_escaped_85 (fun H locs hI => ?_)
          refine W.eq (g2 := F0 m 88 ls []) rfl ?_
          refine lv_aload_n hx hb d_Mod_escaped_88 rfl (lv_at hl 1 rfl) ?_
          refine lv_iconst (v := 1) hx hb d_Mod_escaped_89 (by decide) ?_
          obtain ⟨h38, eh38, hf⟩ := z_bs hf
          refine z_putF X hI (k := 49) (ci := 12) (ty0 := t_Mod) eh38 i_Mod t_Mod_ok n_Mod rfl (by decide) wf_Mod_203 rfl rfl rfl d_Mod_escaped_90 (fun H locs hI => ?_)
          refine lv_aload_n hx hb d_Mod_escaped_93 rfl (lv_at hl 1 rfl) ?_
          refine lv_dup hx hb d_Mod_escaped_94 rfl ?_
          obtain ⟨x39, ex39, hf⟩ := z_bs hf
          refine z_getF X hI (k := 44) (ci := 12) (gI_s ex39) i_Mod rfl (by decide) wf_Mod_206 d_Mod_escaped_95 ?_
          refine lv_iconst (v := 1) hx hb d_Mod_escaped_98 (by decide) ?_
          refine lv_iadd hx hb d_Mod_escaped_99 ?_
          obtain ⟨h40, eh40, hf⟩ := z_bs hf
          refine z_putF X hI (k := 44) (ci := 12) (ty0 := t_Mod) eh40 i_Mod t_Mod_ok n_Mod rfl (by decide) wf_Mod_206 rfl rfl rfl d_Mod_escaped_100 (fun H locs hI => ?_)
          refine lv_goto (tgt := 263) hx hb d_Mod_escaped_103 (by decide) ?_
          exact s_Mod_escaped_263 X  v0 h40 _ _ _ hI (lv_sub hl [1] rfl) hf
        · rw [if_pos c34] at hf
          exact s_Mod_escaped_68 X  v0 v1 r2.2 _ _ _ hI (lv_sub hl [1, 2] rfl) hf
  · rw [if_pos c4] at hf
    refine lv_aload_n hx hb d_Mod_escaped_10 rfl (lv_at hl 1 rfl) ?_
    refine lv_aload_n hx hb d_Mod_escaped_11 rfl (lv_at hl 1 rfl) ?_
    obtain ⟨x41, ex41, hf⟩ := z_bs hf
    refine z_getF X hI (k := 46) (ci := 12) (gI_s ex41) i_Mod rfl (by decide) wf_Mod_194 d_Mod_escaped_12 ?_
    refine lv_bipush (v := 14) hx hb d_Mod_escaped_15 (by decide) ?_
    refine lv_icmp_ne (tgt := 39) hx hb d_Mod_escaped_17 (by decide) (fun c42 => ?_) (fun c42 => ?_)
    · rw [if_neg c42] at hf
      refine lv_aload_n hx hb d_Mod_escaped_39 rfl (lv_at hl 1 rfl) ?_
      obtain ⟨x43, ex43, hf⟩ := z_bs hf
      refine z_getF X hI (k := 3) (ci := 12) (gI_s ex43) i_Mod rfl (by decide) wf_Mod_166 d_Mod_escaped_40 ?_
      exact s_Mod_escaped_43 X  v0 x43 r2.2 _ _ _ hI (lv_sub hl [] rfl) hf
    · rw [if_pos c42] at hf
      refine lv_aload_n hx hb d_Mod_escaped_20 rfl (lv_at hl 1 rfl) ?_
      obtain ⟨x44, ex44, hf⟩ := z_bs hf
      refine z_getF X hI (k := 49) (ci := 12) (gI_s ex44) i_Mod rfl (by decide) wf_Mod_203 d_Mod_escaped_21 ?_
      refine lv_if_ne (tgt := 39) hx hb d_Mod_escaped_24 (by decide) (fun c45 => ?_) (fun c45 => ?_)
      · rw [if_neg c45] at hf
        refine lv_aload_n hx hb d_Mod_escaped_39 rfl (lv_at hl 1 rfl) ?_
        obtain ⟨x46, ex46, hf⟩ := z_bs hf
        refine z_getF X hI (k := 3) (ci := 12) (gI_s ex46) i_Mod rfl (by decide) wf_Mod_166 d_Mod_escaped_40 ?_
        exact s_Mod_escaped_43 X  v0 x46 r2.2 _ _ _ hI (lv_sub hl [] rfl) hf
      · rw [if_pos c45] at hf
        refine lv_aload_n hx hb d_Mod_escaped_27 rfl (lv_at hl 1 rfl) ?_
        obtain ⟨x47, ex47, hf⟩ := z_bs hf
        refine z_getF X hI (k := 44) (ci := 12) (gI_s ex47) i_Mod rfl (by decide) wf_Mod_206 d_Mod_escaped_28 ?_
        refine lv_iconst (v := 3) hx hb d_Mod_escaped_31 (by decide) ?_
        refine lv_icmp_ne (tgt := 39) hx hb d_Mod_escaped_32 (by decide) (fun c48 => ?_) (fun c48 => ?_)
        · rw [if_neg c48] at hf
          refine lv_aload_n hx hb d_Mod_escaped_39 rfl (lv_at hl 1 rfl) ?_
          obtain ⟨x49, ex49, hf⟩ := z_bs hf
          refine z_getF X hI (k := 3) (ci := 12) (gI_s ex49) i_Mod rfl (by decide) wf_Mod_166 d_Mod_escaped_40 ?_
          exact s_Mod_escaped_43 X  v0 x49 r2.2 _ _ _ hI (lv_sub hl [] rfl) hf
        · rw [if_pos c48] at hf
          refine lv_iload_n hx hb d_Mod_escaped_35 rfl (lv_at hl 2 rfl) ?_
          refine lv_goto (tgt := 43) hx hb d_Mod_escaped_36 (by decide) ?_
          exact s_Mod_escaped_43 X  v0 v1 r2.2 _ _ _ hI (lv_sub hl [] rfl) hf
def f_Mod_put_3 (N : Nat)  : Nat → Nat → Int32 → Int32 → Int32 → z_H → Option z_H
  | 0, _, _, _, _, _ => none
  | n + 1, v0, v1, v3, v4, h =>
    if v3 < v4 then
    (some h)
    else
    (if 64 ≤ v4 then
    (z_b (gR h v0 12 38) fun x3 =>
    z_b (aL h x3 v1) fun x4 =>
    z_b (uL h x3 v1 (x4 ||| (1 <<< (Int32.toInt64 (v4 - 64) &&& 63)))) fun h5 =>
    z_b (some (v4 + 1)) fun x6 =>
    (f_Mod_put_3 N  n) v0 v1 v3 x6 h5)
    else
    (z_b (gR h v0 12 37) fun x7 =>
    z_b (aL h x7 v1) fun x8 =>
    z_b (uL h x7 v1 (x8 ||| (1 <<< (Int32.toInt64 v4 &&& 63)))) fun h9 =>
    z_b (some (v4 + 1)) fun x10 =>
    (f_Mod_put_3 N  n) v0 v1 v3 x10 h9))
set_option maxRecDepth 20000 in
set_option maxHeartbeats 2000000 in
theorem s_Mod_put_3 (X : z_X p s m args meth c prog_14_method_19_code 5 none Ts "StreamForgeModel" D dA B) {N : Nat} {h' : z_H}   : ∀ n : Nat, ∀ (v0 : Nat) (v1 : Int32) (v3 : Int32) (v4 : Int32) (h : z_H) (H : Heap) (locs : List Loc) (ls : Array Slot), z_I D dA B h s.heap H locs → lv_has ls 5 [(0, .ref v0), (1, .int v1), (3, .int v3), (4, .int v4)] → f_Mod_put_3 N  n v0 v1 v3 v4 h = some h' → W p l e (z_rm 0 0) s m args below meth c H locs 0 0 (MQ below (z_Q D dA B none h') args s 0 0 (fun q => B ≤ q)) (F0 m 3 ls []) := by
  have hx := z_hx X
  have hb := z_hb X
  intro n
  induction n with
  | zero => intro v0 v1 v3 v4 h H locs ls hI hl hf; rw [f_Mod_put_3] at hf; cases hf
  | succ n ih =>
    intro v0 v1 v3 v4 h H locs ls hI hl hf
    rw [f_Mod_put_3] at hf
    refine lv_iload hx hb d_Mod_put_3 (lv_at hl 3 rfl) ?_
    refine lv_iload_n hx hb d_Mod_put_5 rfl (lv_at hl 2 rfl) ?_
    refine lv_icmp_gt (tgt := 54) hx hb d_Mod_put_6 (by decide) (fun c1 => ?_) (fun c1 => ?_)
    · rw [if_pos c1] at hf
      cases hf
      exact z_vret X hI d_Mod_put_54
    · rw [if_neg c1] at hf
      refine lv_iload hx hb d_Mod_put_9 (lv_at hl 3 rfl) ?_
      refine lv_bipush (v := 64) hx hb d_Mod_put_11 (by decide) ?_
      refine lv_icmp_ge (tgt := 32) hx hb d_Mod_put_13 (by decide) (fun c2 => ?_) (fun c2 => ?_)
      · rw [if_pos c2] at hf
        refine lv_aload_n hx hb d_Mod_put_32 rfl (lv_at hl 0 rfl) ?_
        obtain ⟨x3, ex3, hf⟩ := z_bs hf
        refine z_getF X hI (k := 38) (ci := 12) (gR_s ex3) i_Mod rfl (by decide) wf_Mod_112 d_Mod_put_33 ?_
        refine lv_iload_n hx hb d_Mod_put_36 rfl (lv_at hl 1 rfl) ?_
        refine lv_dup2_11 hx hb d_Mod_put_37 rfl rfl ?_
        obtain ⟨x4, ex4, hf⟩ := z_bs hf
        refine z_lald X hI ex4 d_Mod_put_38 ?_
        refine lv_lconst (v := 1) hx hb d_Mod_put_39 (by decide) ?_
        refine lv_iload hx hb d_Mod_put_40 (lv_at hl 3 rfl) ?_
        refine lv_bipush (v := 64) hx hb d_Mod_put_42 (by decide) ?_
        refine lv_isub hx hb d_Mod_put_44 ?_
        refine lv_lshl hx hb d_Mod_put_45 rfl ?_
        refine lv_lor hx hb d_Mod_put_46 ?_
        obtain ⟨h5, eh5, hf⟩ := z_bs hf
        refine z_last X hI eh5 d_Mod_put_47 (fun H locs hI => ?_)
        obtain ⟨x6, ex6, hf⟩ := z_bs hf
        refine lv_iinc (v := x6) (lv' := [(4, .int x6), (0, .ref v0), (1, .int v1), (3, .int v3)]) hx hb d_Mod_put_48 hl (k := 3) rfl (by rw [← Option.some.inj ex6]; rfl) (by decide) rfl (fun ls hl => ?_)
        refine lv_goto (tgt := 3) hx hb d_Mod_put_51 (by decide) ?_
        exact ih v0 v1 v3 x6 h5 _ _ _ hI (lv_sub hl [1, 2, 3, 0] rfl) hf
      · rw [if_neg c2] at hf
        refine lv_aload_n hx hb d_Mod_put_16 rfl (lv_at hl 0 rfl) ?_
        obtain ⟨x7, ex7, hf⟩ := z_bs hf
        refine z_getF X hI (k := 37) (ci := 12) (gR_s ex7) i_Mod rfl (by decide) wf_Mod_108 d_Mod_put_17 ?_
        refine lv_iload_n hx hb d_Mod_put_20 rfl (lv_at hl 1 rfl) ?_
        refine lv_dup2_11 hx hb d_Mod_put_21 rfl rfl ?_
        obtain ⟨x8, ex8, hf⟩ := z_bs hf
        refine z_lald X hI ex8 d_Mod_put_22 ?_
        refine lv_lconst (v := 1) hx hb d_Mod_put_23 (by decide) ?_
        refine lv_iload hx hb d_Mod_put_24 (lv_at hl 3 rfl) ?_
        refine lv_lshl hx hb d_Mod_put_26 rfl ?_
        refine lv_lor hx hb d_Mod_put_27 ?_
        obtain ⟨h9, eh9, hf⟩ := z_bs hf
        refine z_last X hI eh9 d_Mod_put_28 (fun H locs hI => ?_)
        refine lv_goto (tgt := 48) hx hb d_Mod_put_29 (by decide) ?_
        obtain ⟨x10, ex10, hf⟩ := z_bs hf
        refine lv_iinc (v := x10) (lv' := [(4, .int x10), (0, .ref v0), (1, .int v1), (3, .int v3)]) hx hb d_Mod_put_48 hl (k := 3) rfl (by rw [← Option.some.inj ex10]; rfl) (by decide) rfl (fun ls hl => ?_)
        refine lv_goto (tgt := 3) hx hb d_Mod_put_51 (by decide) ?_
        exact ih v0 v1 v3 x10 h9 _ _ _ hI (lv_sub hl [1, 2, 3, 0] rfl) hf
def f_Mod_put (N : Nat) (v0 : Nat) (v1 : Int32) (v2 : Int32) (v3 : Int32) (h : z_H) : Option z_H :=
  f_Mod_put_3 N N v0 v1 v3 v2 h
set_option maxRecDepth 20000 in
set_option maxHeartbeats 2000000 in
theorem s_Mod_put {l : Launch} {D : va_G} {dA : Nat → ClassId} {B N : Nat} {v0 : Nat} {v1 : Int32} {v2 : Int32} {v3 : Int32} {h h' : z_H} (hf : f_Mod_put N v0 v1 v2 v3 h = some h') : z_Met l y_Mod_put prog_14_method_19_code 5 none 0 0 D dA B [.ref v0, .int v1, .int v2, .int v3] h none h' := by
  refine z_of (by decide) (Nat.le_of_ble_eq_true rfl) (fun p e s m below meth c ls X hI hl => ?_)
  have hx := z_hx X
  have hb := z_hb X
  have hl : lv_has ls 5 [(0, .ref v0), (1, .int v1), (2, .int v2), (3, .int v3)] := hl
  unfold f_Mod_put at hf
  obtain ⟨locs, hlo⟩ : ∃ z : List Loc, z = [] := ⟨_, rfl⟩
  rw [← hlo] at hI ⊢
  refine lv_iload_n hx hb d_Mod_put_0 rfl (lv_at hl 2 rfl) ?_
  refine lv_istore (lv' := [(4, .int v2), (0, .ref v0), (1, .int v1), (2, .int v2), (3, .int v3)]) hx hb d_Mod_put_1 hl (by decide) rfl (fun ls hl => ?_)
  exact s_Mod_put_3 X  N v0 v1 v3 v2 h _ _ _ hI (lv_sub hl [1, 2, 4, 0] rfl) hf
end
