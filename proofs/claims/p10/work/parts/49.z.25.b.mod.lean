section
variable {p : Program} {l : Launch} {e : Env} {s : State} {m : MethodId} {args : Array Value} {below : List Frame} {meth : Method} {c : Code} {Ts : List Cond} {own : String} {D : va_G} {dA : Nat → ClassId} {B : Nat}
def f_Mod_copyOf_2 (N : Nat)  : Nat → Nat → Int32 → Int32 → z_H → Option z_H
  | 0, _, _, _, _ => none
  | n + 1, v0, v2, v3, h =>
    if v2 ≤ v3 then
    (some h)
    else
    (z_b (gR h v0 12 51) fun x2 =>
    z_b (aI h x2 0 v3) fun x3 =>
    z_b (gO h v0 12) fun u4 =>
    z_b (f_Mod_add N v0 x3 h) fun r5 =>
    z_b (some (v3 + 1)) fun x6 =>
    (f_Mod_copyOf_2 N  n) v0 v2 x6 r5)
set_option maxRecDepth 20000 in
set_option maxHeartbeats 2000000 in
theorem s_Mod_copyOf_2 (X : z_X p s m args meth c prog_14_method_55_code 4 none Ts "StreamForgeModel" D dA B) {N : Nat} {h' : z_H}   : ∀ n : Nat, ∀ (v0 : Nat) (v2 : Int32) (v3 : Int32) (h : z_H) (H : Heap) (locs : List Loc) (ls : Array Slot), z_I D dA B h s.heap H locs → lv_has ls 4 [(0, .ref v0), (2, .int v2), (3, .int v3)] → f_Mod_copyOf_2 N  n v0 v2 v3 h = some h' → W p l e (z_rm 1 21) s m args below meth c H locs 0 0 (MQ below (z_Q D dA B none h') args s 0 0 (fun q => B ≤ q)) (F0 m 2 ls []) := by
  have hx := z_hx X
  have hb := z_hb X
  intro n
  induction n with
  | zero => intro v0 v2 v3 h H locs ls hI hl hf; rw [f_Mod_copyOf_2] at hf; cases hf
  | succ n ih =>
    intro v0 v2 v3 h H locs ls hI hl hf
    rw [f_Mod_copyOf_2] at hf
    refine lv_iload_n hx hb d_Mod_copyOf_2 rfl (lv_at hl 2 rfl) ?_
    refine lv_iload_n hx hb d_Mod_copyOf_3 rfl (lv_at hl 1 rfl) ?_
    refine lv_icmp_ge (tgt := 23) hx hb d_Mod_copyOf_4 (by decide) (fun c1 => ?_) (fun c1 => ?_)
    · rw [if_pos c1] at hf
      cases hf
      exact z_vret X hI d_Mod_copyOf_23
    · rw [if_neg c1] at hf
      refine lv_aload_n hx hb d_Mod_copyOf_7 rfl (lv_at hl 0 rfl) ?_
      refine lv_aload_n hx hb d_Mod_copyOf_8 rfl (lv_at hl 0 rfl) ?_
      obtain ⟨x2, ex2, hf⟩ := z_bs hf
      refine z_getF X hI (k := 51) (ci := 12) (gR_s ex2) i_Mod rfl (by decide) wf_Mod_121 d_Mod_copyOf_9 ?_
      refine lv_iload_n hx hb d_Mod_copyOf_12 rfl (lv_at hl 2 rfl) ?_
      obtain ⟨x3, ex3, hf⟩ := z_bs hf
      refine z_iald X hI ex3 d_Mod_copyOf_13 ?_
      obtain ⟨u4, eu4, hf⟩ := z_bs hf
      obtain ⟨r5, er5, hf⟩ := z_bs hf
      refine z_callV (As := [.int x3]) (rest := []) (r := none) (h' := r5) X hI eu4 (s_Mod_add er5) rfl rfl wm_Mod_358 yi_Mod_add rfl hl.1 rfl (Nat.le_of_ble_eq_true rfl) (by decide) (by decide) d_Mod_copyOf_14 (fun H locs hI => ?_)
      refine W.eq (g2 := F0 m 17 ls []) rfl ?_
      obtain ⟨x6, ex6, hf⟩ := z_bs hf
      refine lv_iinc (v := x6) (lv' := [(3, .int x6), (0, .ref v0), (2, .int v2)]) hx hb d_Mod_copyOf_17 hl (k := 2) rfl (by rw [← Option.some.inj ex6]; rfl) (by decide) rfl (fun ls hl => ?_)
      refine lv_goto (tgt := 2) hx hb d_Mod_copyOf_20 (by decide) ?_
      exact ih v0 v2 x6 r5 _ _ _ hI (lv_sub hl [1, 2, 0] rfl) hf
def f_Mod_copyOf (N : Nat) (v0 : Nat) (v1 : Int32) (v2 : Int32) (h : z_H) : Option z_H :=
  f_Mod_copyOf_2 N N v0 v2 v1 h
set_option maxRecDepth 20000 in
set_option maxHeartbeats 2000000 in
theorem s_Mod_copyOf {l : Launch} {D : va_G} {dA : Nat → ClassId} {B N : Nat} {v0 : Nat} {v1 : Int32} {v2 : Int32} {h h' : z_H} (hf : f_Mod_copyOf N v0 v1 v2 h = some h') : z_Met l y_Mod_copyOf prog_14_method_55_code 4 none 1 21 D dA B [.ref v0, .int v1, .int v2] h none h' := by
  refine z_of (by decide) (Nat.le_of_ble_eq_true rfl) (fun p e s m below meth c ls X hI hl => ?_)
  have hx := z_hx X
  have hb := z_hb X
  have hl : lv_has ls 4 [(0, .ref v0), (1, .int v1), (2, .int v2)] := hl
  unfold f_Mod_copyOf at hf
  obtain ⟨locs, hlo⟩ : ∃ z : List Loc, z = [] := ⟨_, rfl⟩
  rw [← hlo] at hI ⊢
  refine lv_iload_n hx hb d_Mod_copyOf_0 rfl (lv_at hl 1 rfl) ?_
  refine lv_istore_n (lv' := [(3, .int v1), (0, .ref v0), (1, .int v1), (2, .int v2)]) hx hb d_Mod_copyOf_1 rfl hl (by decide) rfl (fun ls hl => ?_)
  exact s_Mod_copyOf_2 X  N v0 v2 v1 h _ _ _ hI (lv_sub hl [1, 3, 0] rfl) hf
def f_Mod_addReplacement_7 (N : Nat)  : Nat → Nat → Int32 → Int32 → z_H → Option z_H
  | 0, _, _, _, _ => none
  | n + 1, v0, v1, v2, h =>
    z_b (gR h v0 12 16) fun x1 =>
    z_b (aI h x1 0 v1) fun x2 =>
    if x2 ≤ v2 then
    (some h)
    else
    (z_b (gR h v0 12 33) fun x4 =>
    z_b (aI h x4 0 v2) fun x5 =>
    if 200 ≤ x5 then
    (if x5 = 200 then
    (z_b (gI h v0 12 56) fun x17 =>
    z_b (gI h v0 12 57) fun x18 =>
    z_b (gO h v0 12) fun u19 =>
    z_b (f_Mod_copyOf N v0 x17 x18 h) fun r20 =>
    z_b (some (v2 + 1)) fun x21 =>
    (f_Mod_addReplacement_7 N  n) v0 v1 x21 r20)
    else
    (z_b (gR h v0 12 52) fun x8 =>
    z_b (aI h x8 0 (x5 - 200)) fun x9 =>
    z_b (gR h v0 12 52) fun x10 =>
    z_b (aI h x10 0 (x5 - 200)) fun x11 =>
    z_b (gR h v0 12 53) fun x12 =>
    z_b (aI h x12 0 (x5 - 200)) fun x13 =>
    z_b (gO h v0 12) fun u14 =>
    z_b (f_Mod_copyOf N v0 x9 (x11 + x13) h) fun r15 =>
    z_b (some (v2 + 1)) fun x16 =>
    (f_Mod_addReplacement_7 N  n) v0 v1 x16 r15))
    else
    (z_b (gO h v0 12) fun u22 =>
    z_b (f_Mod_add N v0 x5 h) fun r23 =>
    z_b (some (v2 + 1)) fun x24 =>
    (f_Mod_addReplacement_7 N  n) v0 v1 x24 r23))
set_option maxRecDepth 20000 in
set_option maxHeartbeats 2000000 in
theorem s_Mod_addReplacement_7 (X : z_X p s m args meth c prog_14_method_56_code 4 none Ts "StreamForgeModel" D dA B) {N : Nat} {h' : z_H}   : ∀ n : Nat, ∀ (v0 : Nat) (v1 : Int32) (v2 : Int32) (h : z_H) (H : Heap) (locs : List Loc) (ls : Array Slot), z_I D dA B h s.heap H locs → lv_has ls 4 [(0, .ref v0), (1, .int v1), (2, .int v2)] → f_Mod_addReplacement_7 N  n v0 v1 v2 h = some h' → W p l e (z_rm 2 44) s m args below meth c H locs 0 0 (MQ below (z_Q D dA B none h') args s 0 0 (fun q => B ≤ q)) (F0 m 7 ls []) := by
  have hx := z_hx X
  have hb := z_hb X
  intro n
  induction n with
  | zero => intro v0 v1 v2 h H locs ls hI hl hf; rw [f_Mod_addReplacement_7] at hf; cases hf
  | succ n ih =>
    intro v0 v1 v2 h H locs ls hI hl hf
    rw [f_Mod_addReplacement_7] at hf
    refine lv_iload_n hx hb d_Mod_addReplacement_7 rfl (lv_at hl 2 rfl) ?_
    refine lv_aload_n hx hb d_Mod_addReplacement_8 rfl (lv_at hl 0 rfl) ?_
    obtain ⟨x1, ex1, hf⟩ := z_bs hf
    refine z_getF X hI (k := 16) (ci := 12) (gR_s ex1) i_Mod rfl (by decide) wf_Mod_44 d_Mod_addReplacement_9 ?_
    refine lv_iload_n hx hb d_Mod_addReplacement_12 rfl (lv_at hl 1 rfl) ?_
    obtain ⟨x2, ex2, hf⟩ := z_bs hf
    refine z_iald X hI ex2 d_Mod_addReplacement_13 ?_
    refine lv_icmp_ge (tgt := 102) hx hb d_Mod_addReplacement_14 (by decide) (fun c3 => ?_) (fun c3 => ?_)
    · rw [if_pos c3] at hf
      cases hf
      exact z_vret X hI d_Mod_addReplacement_102
    · rw [if_neg c3] at hf
      refine lv_aload_n hx hb d_Mod_addReplacement_17 rfl (lv_at hl 0 rfl) ?_
      obtain ⟨x4, ex4, hf⟩ := z_bs hf
      refine z_getF X hI (k := 33) (ci := 12) (gR_s ex4) i_Mod rfl (by decide) wf_Mod_96 d_Mod_addReplacement_18 ?_
      refine lv_iload_n hx hb d_Mod_addReplacement_21 rfl (lv_at hl 2 rfl) ?_
      obtain ⟨x5, ex5, hf⟩ := z_bs hf
      refine z_iald X hI ex5 d_Mod_addReplacement_22 ?_
      refine lv_istore_n (lv' := [(3, .int x5), (0, .ref v0), (1, .int v1), (2, .int v2)]) hx hb d_Mod_addReplacement_23 rfl hl (by decide) rfl (fun ls hl => ?_)
      refine lv_iload_n hx hb d_Mod_addReplacement_24 rfl (lv_at hl 0 rfl) ?_
      refine lv_sipush (v := 200) hx hb d_Mod_addReplacement_25 (by decide) ?_
      refine lv_icmp_ge (tgt := 39) hx hb d_Mod_addReplacement_28 (by decide) (fun c6 => ?_) (fun c6 => ?_)
      · rw [if_pos c6] at hf
        refine lv_iload_n hx hb d_Mod_addReplacement_39 rfl (lv_at hl 0 rfl) ?_
        refine lv_sipush (v := 200) hx hb d_Mod_addReplacement_40 (by decide) ?_
        refine lv_icmp_ne (tgt := 61) hx hb d_Mod_addReplacement_43 (by decide) (fun c7 => ?_) (fun c7 => ?_)
        · rw [if_neg c7] at hf
          refine lv_aload_n hx hb d_Mod_addReplacement_61 rfl (lv_at hl 1 rfl) ?_
          refine lv_aload_n hx hb d_Mod_addReplacement_62 rfl (lv_at hl 1 rfl) ?_
          obtain ⟨x8, ex8, hf⟩ := z_bs hf
          refine z_getF X hI (k := 52) (ci := 12) (gR_s ex8) i_Mod rfl (by decide) wf_Mod_124 d_Mod_addReplacement_63 ?_
          refine lv_iload_n hx hb d_Mod_addReplacement_66 rfl (lv_at hl 0 rfl) ?_
          refine lv_sipush (v := 200) hx hb d_Mod_addReplacement_67 (by decide) ?_
          refine lv_isub hx hb d_Mod_addReplacement_70 ?_
          obtain ⟨x9, ex9, hf⟩ := z_bs hf
          refine z_iald X hI ex9 d_Mod_addReplacement_71 ?_
          refine lv_aload_n hx hb d_Mod_addReplacement_72 rfl (lv_at hl 1 rfl) ?_
          obtain ⟨x10, ex10, hf⟩ := z_bs hf
          refine z_getF X hI (k := 52) (ci := 12) (gR_s ex10) i_Mod rfl (by decide) wf_Mod_124 d_Mod_addReplacement_73 ?_
          refine lv_iload_n hx hb d_Mod_addReplacement_76 rfl (lv_at hl 0 rfl) ?_
          refine lv_sipush (v := 200) hx hb d_Mod_addReplacement_77 (by decide) ?_
          refine lv_isub hx hb d_Mod_addReplacement_80 ?_
          obtain ⟨x11, ex11, hf⟩ := z_bs hf
          refine z_iald X hI ex11 d_Mod_addReplacement_81 ?_
          refine lv_aload_n hx hb d_Mod_addReplacement_82 rfl (lv_at hl 1 rfl) ?_
          obtain ⟨x12, ex12, hf⟩ := z_bs hf
          refine z_getF X hI (k := 53) (ci := 12) (gR_s ex12) i_Mod rfl (by decide) wf_Mod_127 d_Mod_addReplacement_83 ?_
          refine lv_iload_n hx hb d_Mod_addReplacement_86 rfl (lv_at hl 0 rfl) ?_
          refine lv_sipush (v := 200) hx hb d_Mod_addReplacement_87 (by decide) ?_
          refine lv_isub hx hb d_Mod_addReplacement_90 ?_
          obtain ⟨x13, ex13, hf⟩ := z_bs hf
          refine z_iald X hI ex13 d_Mod_addReplacement_91 ?_
          refine lv_iadd hx hb d_Mod_addReplacement_92 ?_
          obtain ⟨u14, eu14, hf⟩ := z_bs hf
          obtain ⟨r15, er15, hf⟩ := z_bs hf
          refine z_callV (As := [.int x9, .int (x11 + x13)]) (rest := []) (r := none) (h' := r15) X hI eu14 (s_Mod_copyOf er15) rfl rfl wm_Mod_361 yi_Mod_copyOf rfl hl.1 rfl (Nat.le_of_ble_eq_true rfl) (by decide) (by decide) d_Mod_addReplacement_93 (fun H locs hI => ?_)
          refine W.eq (g2 := F0 m 96 ls []) rfl ?_
          obtain ⟨x16, ex16, hf⟩ := z_bs hf
          refine lv_iinc (v := x16) (lv' := [(2, .int x16), (3, .int x5), (0, .ref v0), (1, .int v1)]) hx hb d_Mod_addReplacement_96 hl (k := 3) rfl (by rw [← Option.some.inj ex16]; rfl) (by decide) rfl (fun ls hl => ?_)
          refine lv_goto (tgt := 7) hx hb d_Mod_addReplacement_99 (by decide) ?_
          exact ih v0 v1 x16 r15 _ _ _ hI (lv_sub hl [2, 3, 0] rfl) hf
        · rw [if_pos c7] at hf
          refine lv_aload_n hx hb d_Mod_addReplacement_46 rfl (lv_at hl 1 rfl) ?_
          refine lv_aload_n hx hb d_Mod_addReplacement_47 rfl (lv_at hl 1 rfl) ?_
          obtain ⟨x17, ex17, hf⟩ := z_bs hf
          refine z_getF X hI (k := 56) (ci := 12) (gI_s ex17) i_Mod rfl (by decide) wf_Mod_313 d_Mod_addReplacement_48 ?_
          refine lv_aload_n hx hb d_Mod_addReplacement_51 rfl (lv_at hl 1 rfl) ?_
          obtain ⟨x18, ex18, hf⟩ := z_bs hf
          refine z_getF X hI (k := 57) (ci := 12) (gI_s ex18) i_Mod rfl (by decide) wf_Mod_316 d_Mod_addReplacement_52 ?_
          obtain ⟨u19, eu19, hf⟩ := z_bs hf
          obtain ⟨r20, er20, hf⟩ := z_bs hf
          refine z_callV (As := [.int x17, .int x18]) (rest := []) (r := none) (h' := r20) X hI eu19 (s_Mod_copyOf er20) rfl rfl wm_Mod_361 yi_Mod_copyOf rfl hl.1 rfl (Nat.le_of_ble_eq_true rfl) (by decide) (by decide) d_Mod_addReplacement_55 (fun H locs hI => ?_)
          refine W.eq (g2 := F0 m 58 ls []) rfl ?_
          refine lv_goto (tgt := 96) hx hb d_Mod_addReplacement_58 (by decide) ?_
          obtain ⟨x21, ex21, hf⟩ := z_bs hf
          refine lv_iinc (v := x21) (lv' := [(2, .int x21), (3, .int x5), (0, .ref v0), (1, .int v1)]) hx hb d_Mod_addReplacement_96 hl (k := 3) rfl (by rw [← Option.some.inj ex21]; rfl) (by decide) rfl (fun ls hl => ?_)
          refine lv_goto (tgt := 7) hx hb d_Mod_addReplacement_99 (by decide) ?_
          exact ih v0 v1 x21 r20 _ _ _ hI (lv_sub hl [2, 3, 0] rfl) hf
      · rw [if_neg c6] at hf
        refine lv_aload_n hx hb d_Mod_addReplacement_31 rfl (lv_at hl 1 rfl) ?_
        refine lv_iload_n hx hb d_Mod_addReplacement_32 rfl (lv_at hl 0 rfl) ?_
        obtain ⟨u22, eu22, hf⟩ := z_bs hf
        obtain ⟨r23, er23, hf⟩ := z_bs hf
        refine z_callV (As := [.int x5]) (rest := []) (r := none) (h' := r23) X hI eu22 (s_Mod_add er23) rfl rfl wm_Mod_358 yi_Mod_add rfl hl.1 rfl (Nat.le_of_ble_eq_true rfl) (by decide) (by decide) d_Mod_addReplacement_33 (fun H locs hI => ?_)
        refine W.eq (g2 := F0 m 36 ls []) rfl ?_
        refine lv_goto (tgt := 96) hx hb d_Mod_addReplacement_36 (by decide) ?_
        obtain ⟨x24, ex24, hf⟩ := z_bs hf
        refine lv_iinc (v := x24) (lv' := [(2, .int x24), (3, .int x5), (0, .ref v0), (1, .int v1)]) hx hb d_Mod_addReplacement_96 hl (k := 3) rfl (by rw [← Option.some.inj ex24]; rfl) (by decide) rfl (fun ls hl => ?_)
        refine lv_goto (tgt := 7) hx hb d_Mod_addReplacement_99 (by decide) ?_
        exact ih v0 v1 x24 r23 _ _ _ hI (lv_sub hl [2, 3, 0] rfl) hf
def f_Mod_addReplacement (N : Nat) (v0 : Nat) (v1 : Int32) (h : z_H) : Option z_H :=
  z_b (gR h v0 12 15) fun x1 =>
  z_b (aI h x1 0 v1) fun x2 =>
  f_Mod_addReplacement_7 N N v0 v1 x2 h
set_option maxRecDepth 20000 in
set_option maxHeartbeats 2000000 in
theorem s_Mod_addReplacement {l : Launch} {D : va_G} {dA : Nat → ClassId} {B N : Nat} {v0 : Nat} {v1 : Int32} {h h' : z_H} (hf : f_Mod_addReplacement N v0 v1 h = some h') : z_Met l y_Mod_addReplacement prog_14_method_56_code 4 none 2 44 D dA B [.ref v0, .int v1] h none h' := by
  refine z_of (by decide) (Nat.le_of_ble_eq_true rfl) (fun p e s m below meth c ls X hI hl => ?_)
  have hx := z_hx X
  have hb := z_hb X
  have hl : lv_has ls 4 [(0, .ref v0), (1, .int v1)] := hl
  unfold f_Mod_addReplacement at hf
  obtain ⟨locs, hlo⟩ : ∃ z : List Loc, z = [] := ⟨_, rfl⟩
  rw [← hlo] at hI ⊢
  refine lv_aload_n hx hb d_Mod_addReplacement_0 rfl (lv_at hl 0 rfl) ?_
  obtain ⟨x1, ex1, hf⟩ := z_bs hf
  refine z_getF X hI (k := 15) (ci := 12) (gR_s ex1) i_Mod rfl (by decide) wf_Mod_41 d_Mod_addReplacement_1 ?_
  refine lv_iload_n hx hb d_Mod_addReplacement_4 rfl (lv_at hl 1 rfl) ?_
  obtain ⟨x2, ex2, hf⟩ := z_bs hf
  refine z_iald X hI ex2 d_Mod_addReplacement_5 ?_
  refine lv_istore_n (lv' := [(2, .int x2), (0, .ref v0), (1, .int v1)]) hx hb d_Mod_addReplacement_6 rfl hl (by decide) rfl (fun ls hl => ?_)
  exact s_Mod_addReplacement_7 X  N v0 v1 x2 h _ _ _ hI (lv_sub hl [1, 2, 0] rfl) hf
def f_Mod_substituted_216 (N : Nat) (k43 : Nat → Int32 → Int32 → Int32 → Int32 → Int32 → Int32 → Int32 → z_H → Option (Int32 × z_H)) (v0 : Nat) (v1 : Int32) (v3 : Int32) (v4 : Int32) (v5 : Int32) (v6 : Int32) (v7 : Int32) (v8 : Int32) (h : z_H) : Option (Int32 × z_H) :=
  z_b (some (v8 + 1)) fun x1 =>
  k43 v0 v1 x1 v3 v4 v5 v6 v7 h
set_option maxRecDepth 20000 in
set_option maxHeartbeats 2000000 in
theorem s_Mod_substituted_216 (X : z_X p s m args meth c prog_14_method_57_code 11 (some .boolean) Ts "StreamForgeModel" D dA B) {N : Nat} {r : Int32} {h' : z_H} {k43 : Nat → Int32 → Int32 → Int32 → Int32 → Int32 → Int32 → Int32 → z_H → Option (Int32 × z_H)} (hk43 : ∀ (v0 : Nat) (v1 : Int32) (v2 : Int32) (v3 : Int32) (v4 : Int32) (v5 : Int32) (v6 : Int32) (v7 : Int32) (h : z_H) (H : Heap) (locs : List Loc) (ls : Array Slot), z_I D dA B h s.heap H locs → lv_has ls 11 [(0, .ref v0), (1, .int v1), (2, .int v2), (3, .int v3), (4, .int v4), (5, .int v5), (6, .int v6), (7, .int v7)] → k43 v0 v1 v2 v3 v4 v5 v6 v7 h = some (r, h') → W p l e (z_rm 3 86) s m args below meth c H locs 0 0 (MQ below (z_Q D dA B (some (.int r)) h') args s 0 0 (fun q => B ≤ q)) (F0 m 43 ls [])) : ∀ (v0 : Nat) (v1 : Int32) (v3 : Int32) (v4 : Int32) (v5 : Int32) (v6 : Int32) (v7 : Int32) (v8 : Int32) (h : z_H) (H : Heap) (locs : List Loc) (ls : Array Slot), z_I D dA B h s.heap H locs → lv_has ls 11 [(0, .ref v0), (1, .int v1), (3, .int v3), (4, .int v4), (5, .int v5), (6, .int v6), (7, .int v7), (8, .int v8)] → f_Mod_substituted_216 N k43 v0 v1 v3 v4 v5 v6 v7 v8 h = some (r, h') → W p l e (z_rm 3 86) s m args below meth c H locs 0 0 (MQ below (z_Q D dA B (some (.int r)) h') args s 0 0 (fun q => B ≤ q)) (F0 m 216 ls []) := by
  have hx := z_hx X
  have hb := z_hb X
  intro v0 v1 v3 v4 v5 v6 v7 v8 h H locs ls hI hl hf
  unfold f_Mod_substituted_216 at hf
  refine lv_iload hx hb d_Mod_substituted_216 (lv_at hl 7 rfl) ?_
  refine lv_iconst (v := 1) hx hb d_Mod_substituted_218 (by decide) ?_
  refine lv_iadd hx hb d_Mod_substituted_219 ?_
  obtain ⟨x1, ex1, hf⟩ := z_bs hf
  refine z_topi (Option.some.inj ex1) ?_
  refine lv_istore_n (lv' := [(2, .int x1), (0, .ref v0), (1, .int v1), (3, .int v3), (4, .int v4), (5, .int v5), (6, .int v6), (7, .int v7), (8, .int v8)]) hx hb d_Mod_substituted_220 rfl hl (by decide) rfl (fun ls hl => ?_)
  refine lv_goto (tgt := 43) hx hb d_Mod_substituted_221 (by decide) ?_
  exact hk43 v0 v1 x1 v3 v4 v5 v6 v7 h _ _ _ hI (lv_sub hl [1, 2, 0, 3, 4, 5, 6, 7] rfl) hf
def f_Mod_substituted_183 (N : Nat) (k43 : Nat → Int32 → Int32 → Int32 → Int32 → Int32 → Int32 → Int32 → z_H → Option (Int32 × z_H)) (v0 : Nat) (v1 : Int32) (v4 : Int32) (v5 : Int32) (v6 : Int32) (v7 : Int32) (v8 : Int32) (v9 : Int32) (h : z_H) : Option (Int32 × z_H) :=
  if v9 = v8 then
  (z_b (gI h v0 12 54) fun x2 =>
  if x2 ≤ v8 then
  (f_Mod_substituted_216 N k43 v0 v1 v9 v4 v5 v6 v7 v8 h)
  else
  (z_b (gR h v0 12 51) fun x4 =>
  z_b (aI h x4 0 v8) fun x5 =>
  z_b (gO h v0 12) fun u6 =>
  z_b (f_Mod_add N v0 x5 h) fun r7 =>
  f_Mod_substituted_216 N k43 v0 v1 v9 v4 v5 v6 v7 v8 r7))
  else
  (k43 v0 v1 v9 v9 v4 v5 v6 v7 h)
set_option maxRecDepth 20000 in
set_option maxHeartbeats 2000000 in
theorem s_Mod_substituted_183 (X : z_X p s m args meth c prog_14_method_57_code 11 (some .boolean) Ts "StreamForgeModel" D dA B) {N : Nat} {r : Int32} {h' : z_H} {k43 : Nat → Int32 → Int32 → Int32 → Int32 → Int32 → Int32 → Int32 → z_H → Option (Int32 × z_H)} (hk43 : ∀ (v0 : Nat) (v1 : Int32) (v2 : Int32) (v3 : Int32) (v4 : Int32) (v5 : Int32) (v6 : Int32) (v7 : Int32) (h : z_H) (H : Heap) (locs : List Loc) (ls : Array Slot), z_I D dA B h s.heap H locs → lv_has ls 11 [(0, .ref v0), (1, .int v1), (2, .int v2), (3, .int v3), (4, .int v4), (5, .int v5), (6, .int v6), (7, .int v7)] → k43 v0 v1 v2 v3 v4 v5 v6 v7 h = some (r, h') → W p l e (z_rm 3 86) s m args below meth c H locs 0 0 (MQ below (z_Q D dA B (some (.int r)) h') args s 0 0 (fun q => B ≤ q)) (F0 m 43 ls [])) : ∀ (v0 : Nat) (v1 : Int32) (v4 : Int32) (v5 : Int32) (v6 : Int32) (v7 : Int32) (v8 : Int32) (v9 : Int32) (h : z_H) (H : Heap) (locs : List Loc) (ls : Array Slot), z_I D dA B h s.heap H locs → lv_has ls 11 [(0, .ref v0), (1, .int v1), (4, .int v4), (5, .int v5), (6, .int v6), (7, .int v7), (8, .int v8), (9, .int v9)] → f_Mod_substituted_183 N k43 v0 v1 v4 v5 v6 v7 v8 v9 h = some (r, h') → W p l e (z_rm 3 86) s m args below meth c H locs 0 0 (MQ below (z_Q D dA B (some (.int r)) h') args s 0 0 (fun q => B ≤ q)) (F0 m 183 ls []) := by
  have hx := z_hx X
  have hb := z_hb X
  intro v0 v1 v4 v5 v6 v7 v8 v9 h H locs ls hI hl hf
  unfold f_Mod_substituted_183 at hf
  refine lv_iload hx hb d_Mod_substituted_183 (lv_at hl 7 rfl) ?_
  refine lv_istore_n (lv' := [(3, .int v9), (0, .ref v0), (1, .int v1), (4, .int v4), (5, .int v5), (6, .int v6), (7, .int v7), (8, .int v8), (9, .int v9)]) hx hb d_Mod_substituted_185 rfl hl (by decide) rfl (fun ls hl => ?_)
  refine lv_iload hx hb d_Mod_substituted_186 (lv_at hl 8 rfl) ?_
  refine lv_istore_n (lv' := [(2, .int v9), (3, .int v9), (0, .ref v0), (1, .int v1), (4, .int v4), (5, .int v5), (6, .int v6), (7, .int v7), (8, .int v8), (9, .int v9)]) hx hb d_Mod_substituted_188 rfl hl (by decide) rfl (fun ls hl => ?_)
  refine lv_iload hx hb d_Mod_substituted_189 (lv_at hl 9 rfl) ?_
  refine lv_iload hx hb d_Mod_substituted_191 (lv_at hl 8 rfl) ?_
  refine lv_icmp_ne (tgt := 221) hx hb d_Mod_substituted_193 (by decide) (fun c1 => ?_) (fun c1 => ?_)
  · rw [if_neg c1] at hf
    refine lv_goto (tgt := 43) hx hb d_Mod_substituted_221 (by decide) ?_
    exact hk43 v0 v1 v9 v9 v4 v5 v6 v7 h _ _ _ hI (lv_sub hl [2, 3, 0, 1, 4, 5, 6, 7] rfl) hf
  · rw [if_pos c1] at hf
    refine lv_iload hx hb d_Mod_substituted_196 (lv_at hl 8 rfl) ?_
    refine lv_aload_n hx hb d_Mod_substituted_198 rfl (lv_at hl 2 rfl) ?_
    obtain ⟨x2, ex2, hf⟩ := z_bs hf
    refine z_getF X hI (k := 54) (ci := 12) (gI_s ex2) i_Mod rfl (by decide) wf_Mod_299 d_Mod_substituted_199 ?_
    refine lv_icmp_ge (tgt := 216) hx hb d_Mod_substituted_202 (by decide) (fun c3 => ?_) (fun c3 => ?_)
    · rw [if_pos c3] at hf
      exact s_Mod_substituted_216 X hk43 v0 v1 v9 v4 v5 v6 v7 v8 h _ _ _ hI (lv_sub hl [2, 3, 1, 4, 5, 6, 7, 8] rfl) hf
    · rw [if_neg c3] at hf
      refine lv_aload_n hx hb d_Mod_substituted_205 rfl (lv_at hl 2 rfl) ?_
      refine lv_aload_n hx hb d_Mod_substituted_206 rfl (lv_at hl 2 rfl) ?_
      obtain ⟨x4, ex4, hf⟩ := z_bs hf
      refine z_getF X hI (k := 51) (ci := 12) (gR_s ex4) i_Mod rfl (by decide) wf_Mod_121 d_Mod_substituted_207 ?_
      refine lv_iload hx hb d_Mod_substituted_210 (lv_at hl 8 rfl) ?_
      obtain ⟨x5, ex5, hf⟩ := z_bs hf
      refine z_iald X hI ex5 d_Mod_substituted_212 ?_
      obtain ⟨u6, eu6, hf⟩ := z_bs hf
      obtain ⟨r7, er7, hf⟩ := z_bs hf
      refine z_callV (As := [.int x5]) (rest := []) (r := none) (h' := r7) X hI eu6 (s_Mod_add er7) rfl rfl wm_Mod_358 yi_Mod_add rfl hl.1 rfl (Nat.le_of_ble_eq_true rfl) (by decide) (by decide) d_Mod_substituted_213 (fun H locs hI => ?_)
      refine W.eq (g2 := F0 m 216 ls []) rfl ?_
      exact s_Mod_substituted_216 X hk43 v0 v1 v9 v4 v5 v6 v7 v8 r7 _ _ _ hI (lv_sub hl [2, 3, 1, 4, 5, 6, 7, 8] rfl) hf
def f_Mod_substituted_152 (N : Nat) (k43 : Nat → Int32 → Int32 → Int32 → Int32 → Int32 → Int32 → Int32 → z_H → Option (Int32 × z_H)) (v0 : Nat) (v1 : Int32) (v4 : Int32) (v5 : Int32) (v6 : Int32) (v7 : Int32) (v8 : Int32) (v9 : Int32) (h : z_H) : Option (Int32 × z_H) :=
  z_b (gO h v0 12) fun u1 =>
  z_b (f_Mod_addReplacement N v0 v1 h) fun r2 =>
  z_b (some (v5 + 1)) fun x3 =>
  z_b (gR r2 v0 12 22) fun x4 =>
  z_b (aI r2 x4 3 v1) fun x5 =>
  if x5 = 0 then
  (f_Mod_substituted_183 N k43 v0 v1 v4 x3 v6 0 v8 v9 r2)
  else
  (f_Mod_substituted_183 N k43 v0 v1 v4 x3 v6 v7 v8 v9 r2)
set_option maxRecDepth 20000 in
set_option maxHeartbeats 2000000 in
theorem s_Mod_substituted_152 (X : z_X p s m args meth c prog_14_method_57_code 11 (some .boolean) Ts "StreamForgeModel" D dA B) {N : Nat} {r : Int32} {h' : z_H} {k43 : Nat → Int32 → Int32 → Int32 → Int32 → Int32 → Int32 → Int32 → z_H → Option (Int32 × z_H)} (hk43 : ∀ (v0 : Nat) (v1 : Int32) (v2 : Int32) (v3 : Int32) (v4 : Int32) (v5 : Int32) (v6 : Int32) (v7 : Int32) (h : z_H) (H : Heap) (locs : List Loc) (ls : Array Slot), z_I D dA B h s.heap H locs → lv_has ls 11 [(0, .ref v0), (1, .int v1), (2, .int v2), (3, .int v3), (4, .int v4), (5, .int v5), (6, .int v6), (7, .int v7)] → k43 v0 v1 v2 v3 v4 v5 v6 v7 h = some (r, h') → W p l e (z_rm 3 86) s m args below meth c H locs 0 0 (MQ below (z_Q D dA B (some (.int r)) h') args s 0 0 (fun q => B ≤ q)) (F0 m 43 ls [])) : ∀ (v0 : Nat) (v1 : Int32) (v4 : Int32) (v5 : Int32) (v6 : Int32) (v7 : Int32) (v8 : Int32) (v9 : Int32) (h : z_H) (H : Heap) (locs : List Loc) (ls : Array Slot), z_I D dA B h s.heap H locs → lv_has ls 11 [(0, .ref v0), (1, .int v1), (4, .int v4), (5, .int v5), (6, .int v6), (7, .int v7), (8, .int v8), (9, .int v9)] → f_Mod_substituted_152 N k43 v0 v1 v4 v5 v6 v7 v8 v9 h = some (r, h') → W p l e (z_rm 3 86) s m args below meth c H locs 0 0 (MQ below (z_Q D dA B (some (.int r)) h') args s 0 0 (fun q => B ≤ q)) (F0 m 152 ls []) := by
  have hx := z_hx X
  have hb := z_hb X
  intro v0 v1 v4 v5 v6 v7 v8 v9 h H locs ls hI hl hf
  unfold f_Mod_substituted_152 at hf
  refine lv_aload_n hx hb d_Mod_substituted_152 rfl (lv_at hl 0 rfl) ?_
  refine lv_iload_n hx hb d_Mod_substituted_153 rfl (lv_at hl 1 rfl) ?_
  obtain ⟨u1, eu1, hf⟩ := z_bs hf
  obtain ⟨r2, er2, hf⟩ := z_bs hf
  refine z_callV (As := [.int v1]) (rest := []) (r := none) (h' := r2) X hI eu1 (s_Mod_addReplacement er2) rfl rfl wm_Mod_365 yi_Mod_addReplacement rfl hl.1 rfl (Nat.le_of_ble_eq_true rfl) (by decide) (by decide) d_Mod_substituted_154 (fun H locs hI => ?_)
  refine W.eq (g2 := F0 m 157 ls []) rfl ?_
  obtain ⟨x3, ex3, hf⟩ := z_bs hf
  refine lv_iinc (v := x3) (lv' := [(5, .int x3), (0, .ref v0), (1, .int v1), (4, .int v4), (6, .int v6), (7, .int v7), (8, .int v8), (9, .int v9)]) hx hb d_Mod_substituted_157 hl (k := 3) rfl (by rw [← Option.some.inj ex3]; rfl) (by decide) rfl (fun ls hl => ?_)
  refine lv_aload_n hx hb d_Mod_substituted_160 rfl (lv_at hl 1 rfl) ?_
  obtain ⟨x4, ex4, hf⟩ := z_bs hf
  refine z_getF X hI (k := 22) (ci := 12) (gR_s ex4) i_Mod rfl (by decide) wf_Mod_63 d_Mod_substituted_161 ?_
  refine lv_iload_n hx hb d_Mod_substituted_164 rfl (lv_at hl 2 rfl) ?_
  obtain ⟨x5, ex5, hf⟩ := z_bs hf
  refine z_zald X hI ex5 d_Mod_substituted_165 ?_
  refine lv_if_ne (tgt := 183) hx hb d_Mod_substituted_166 (by decide) (fun c6 => ?_) (fun c6 => ?_)
  · rw [if_neg c6] at hf
    exact s_Mod_substituted_183 X hk43 v0 v1 v4 x3 v6 v7 v8 v9 r2 _ _ _ hI (lv_sub hl [1, 2, 3, 0, 4, 5, 6, 7] rfl) hf
  · rw [if_pos c6] at hf
    refine lv_iconst (v := 0) hx hb d_Mod_substituted_169 (by decide) ?_
    refine lv_istore (lv' := [(7, .int 0), (5, .int x3), (0, .ref v0), (1, .int v1), (4, .int v4), (6, .int v6), (8, .int v8), (9, .int v9)]) hx hb d_Mod_substituted_170 hl (by decide) rfl (fun ls hl => ?_)
    refine lv_goto (tgt := 183) hx hb d_Mod_substituted_172 (by decide) ?_
    exact s_Mod_substituted_183 X hk43 v0 v1 v4 x3 v6 0 v8 v9 r2 _ _ _ hI (lv_sub hl [2, 3, 4, 1, 5, 0, 6, 7] rfl) hf
def f_Mod_substituted_175 (N : Nat) (k43 : Nat → Int32 → Int32 → Int32 → Int32 → Int32 → Int32 → Int32 → z_H → Option (Int32 × z_H)) (v0 : Nat) (v1 : Int32) (v4 : Int32) (v5 : Int32) (v6 : Int32) (v7 : Int32) (v8 : Int32) (v9 : Int32) (h : z_H) : Option (Int32 × z_H) :=
  z_b (gO h v0 12) fun u1 =>
  z_b (f_Mod_copyOf N v0 v8 v9 h) fun r2 =>
  f_Mod_substituted_183 N k43 v0 v1 v4 v5 v6 v7 v8 v9 r2
set_option maxRecDepth 20000 in
set_option maxHeartbeats 2000000 in
theorem s_Mod_substituted_175 (X : z_X p s m args meth c prog_14_method_57_code 11 (some .boolean) Ts "StreamForgeModel" D dA B) {N : Nat} {r : Int32} {h' : z_H} {k43 : Nat → Int32 → Int32 → Int32 → Int32 → Int32 → Int32 → Int32 → z_H → Option (Int32 × z_H)} (hk43 : ∀ (v0 : Nat) (v1 : Int32) (v2 : Int32) (v3 : Int32) (v4 : Int32) (v5 : Int32) (v6 : Int32) (v7 : Int32) (h : z_H) (H : Heap) (locs : List Loc) (ls : Array Slot), z_I D dA B h s.heap H locs → lv_has ls 11 [(0, .ref v0), (1, .int v1), (2, .int v2), (3, .int v3), (4, .int v4), (5, .int v5), (6, .int v6), (7, .int v7)] → k43 v0 v1 v2 v3 v4 v5 v6 v7 h = some (r, h') → W p l e (z_rm 3 86) s m args below meth c H locs 0 0 (MQ below (z_Q D dA B (some (.int r)) h') args s 0 0 (fun q => B ≤ q)) (F0 m 43 ls [])) : ∀ (v0 : Nat) (v1 : Int32) (v4 : Int32) (v5 : Int32) (v6 : Int32) (v7 : Int32) (v8 : Int32) (v9 : Int32) (h : z_H) (H : Heap) (locs : List Loc) (ls : Array Slot), z_I D dA B h s.heap H locs → lv_has ls 11 [(0, .ref v0), (1, .int v1), (4, .int v4), (5, .int v5), (6, .int v6), (7, .int v7), (8, .int v8), (9, .int v9)] → f_Mod_substituted_175 N k43 v0 v1 v4 v5 v6 v7 v8 v9 h = some (r, h') → W p l e (z_rm 3 86) s m args below meth c H locs 0 0 (MQ below (z_Q D dA B (some (.int r)) h') args s 0 0 (fun q => B ≤ q)) (F0 m 175 ls []) := by
  have hx := z_hx X
  have hb := z_hb X
  intro v0 v1 v4 v5 v6 v7 v8 v9 h H locs ls hI hl hf
  unfold f_Mod_substituted_175 at hf
  refine lv_aload_n hx hb d_Mod_substituted_175 rfl (lv_at hl 0 rfl) ?_
  refine lv_iload hx hb d_Mod_substituted_176 (lv_at hl 6 rfl) ?_
  refine lv_iload hx hb d_Mod_substituted_178 (lv_at hl 7 rfl) ?_
  obtain ⟨u1, eu1, hf⟩ := z_bs hf
  obtain ⟨r2, er2, hf⟩ := z_bs hf
  refine z_callV (As := [.int v8, .int v9]) (rest := []) (r := none) (h' := r2) X hI eu1 (s_Mod_copyOf er2) rfl rfl wm_Mod_361 yi_Mod_copyOf rfl hl.1 rfl (Nat.le_of_ble_eq_true rfl) (by decide) (by decide) d_Mod_substituted_180 (fun H locs hI => ?_)
  refine W.eq (g2 := F0 m 183 ls []) rfl ?_
  exact s_Mod_substituted_183 X hk43 v0 v1 v4 v5 v6 v7 v8 v9 r2 _ _ _ hI (lv_sub hl [0, 1, 2, 3, 4, 5, 6, 7] rfl) hf
def f_Mod_substituted_124 (N : Nat) (k43 : Nat → Int32 → Int32 → Int32 → Int32 → Int32 → Int32 → Int32 → z_H → Option (Int32 × z_H)) (v0 : Nat) (v1 : Int32) (v4 : Int32) (v5 : Int32) (v6 : Int32) (v7 : Int32) (v8 : Int32) (v9 : Int32) (v10 : Int32) (h : z_H) : Option (Int32 × z_H) :=
  if v10 = 0 then
  (f_Mod_substituted_175 N k43 v0 v1 v4 v5 v6 v7 v8 v9 h)
  else
  (if v4 = v6 then
  (f_Mod_substituted_152 N k43 v0 v1 v4 v5 v6 v7 v8 v9 h)
  else
  (if v4 ≤ v6 then
  (f_Mod_substituted_175 N k43 v0 v1 v4 v5 v6 v7 v8 v9 h)
  else
  (z_b (gR h v0 12 22) fun x4 =>
  z_b (aI h x4 3 v1) fun x5 =>
  if x5 = 0 then
  (f_Mod_substituted_175 N k43 v0 v1 v4 v5 v6 v7 v8 v9 h)
  else
  (f_Mod_substituted_152 N k43 v0 v1 v4 v5 v6 v7 v8 v9 h))))
set_option maxRecDepth 20000 in
set_option maxHeartbeats 2000000 in
theorem s_Mod_substituted_124 (X : z_X p s m args meth c prog_14_method_57_code 11 (some .boolean) Ts "StreamForgeModel" D dA B) {N : Nat} {r : Int32} {h' : z_H} {k43 : Nat → Int32 → Int32 → Int32 → Int32 → Int32 → Int32 → Int32 → z_H → Option (Int32 × z_H)} (hk43 : ∀ (v0 : Nat) (v1 : Int32) (v2 : Int32) (v3 : Int32) (v4 : Int32) (v5 : Int32) (v6 : Int32) (v7 : Int32) (h : z_H) (H : Heap) (locs : List Loc) (ls : Array Slot), z_I D dA B h s.heap H locs → lv_has ls 11 [(0, .ref v0), (1, .int v1), (2, .int v2), (3, .int v3), (4, .int v4), (5, .int v5), (6, .int v6), (7, .int v7)] → k43 v0 v1 v2 v3 v4 v5 v6 v7 h = some (r, h') → W p l e (z_rm 3 86) s m args below meth c H locs 0 0 (MQ below (z_Q D dA B (some (.int r)) h') args s 0 0 (fun q => B ≤ q)) (F0 m 43 ls [])) : ∀ (v0 : Nat) (v1 : Int32) (v4 : Int32) (v5 : Int32) (v6 : Int32) (v7 : Int32) (v8 : Int32) (v9 : Int32) (v10 : Int32) (h : z_H) (H : Heap) (locs : List Loc) (ls : Array Slot), z_I D dA B h s.heap H locs → lv_has ls 11 [(0, .ref v0), (1, .int v1), (4, .int v4), (5, .int v5), (6, .int v6), (7, .int v7), (8, .int v8), (9, .int v9), (10, .int v10)] → f_Mod_substituted_124 N k43 v0 v1 v4 v5 v6 v7 v8 v9 v10 h = some (r, h') → W p l e (z_rm 3 86) s m args below meth c H locs 0 0 (MQ below (z_Q D dA B (some (.int r)) h') args s 0 0 (fun q => B ≤ q)) (F0 m 124 ls []) := by
  have hx := z_hx X
  have hb := z_hb X
  intro v0 v1 v4 v5 v6 v7 v8 v9 v10 h H locs ls hI hl hf
  unfold f_Mod_substituted_124 at hf
  refine lv_iload hx hb d_Mod_substituted_124 (lv_at hl 8 rfl) ?_
  refine lv_if_eq (tgt := 175) hx hb d_Mod_substituted_126 (by decide) (fun c1 => ?_) (fun c1 => ?_)
  · rw [if_pos c1] at hf
    exact s_Mod_substituted_175 X hk43 v0 v1 v4 v5 v6 v7 v8 v9 h _ _ _ hI (lv_sub hl [0, 1, 2, 3, 4, 5, 6, 7] rfl) hf
  · rw [if_neg c1] at hf
    refine lv_iload hx hb d_Mod_substituted_129 (lv_at hl 2 rfl) ?_
    refine lv_iload hx hb d_Mod_substituted_131 (lv_at hl 4 rfl) ?_
    refine lv_icmp_eq (tgt := 152) hx hb d_Mod_substituted_133 (by decide) (fun c2 => ?_) (fun c2 => ?_)
    · rw [if_pos c2] at hf
      exact s_Mod_substituted_152 X hk43 v0 v1 v4 v5 v6 v7 v8 v9 h _ _ _ hI (lv_sub hl [0, 1, 2, 3, 4, 5, 6, 7] rfl) hf
    · rw [if_neg c2] at hf
      refine lv_iload hx hb d_Mod_substituted_136 (lv_at hl 2 rfl) ?_
      refine lv_iload hx hb d_Mod_substituted_138 (lv_at hl 4 rfl) ?_
      refine lv_icmp_le (tgt := 175) hx hb d_Mod_substituted_140 (by decide) (fun c3 => ?_) (fun c3 => ?_)
      · rw [if_pos c3] at hf
        exact s_Mod_substituted_175 X hk43 v0 v1 v4 v5 v6 v7 v8 v9 h _ _ _ hI (lv_sub hl [0, 1, 2, 3, 4, 5, 6, 7] rfl) hf
      · rw [if_neg c3] at hf
        refine lv_aload_n hx hb d_Mod_substituted_143 rfl (lv_at hl 0 rfl) ?_
        obtain ⟨x4, ex4, hf⟩ := z_bs hf
        refine z_getF X hI (k := 22) (ci := 12) (gR_s ex4) i_Mod rfl (by decide) wf_Mod_63 d_Mod_substituted_144 ?_
        refine lv_iload_n hx hb d_Mod_substituted_147 rfl (lv_at hl 1 rfl) ?_
        obtain ⟨x5, ex5, hf⟩ := z_bs hf
        refine z_zald X hI ex5 d_Mod_substituted_148 ?_
        refine lv_if_eq (tgt := 175) hx hb d_Mod_substituted_149 (by decide) (fun c6 => ?_) (fun c6 => ?_)
        · rw [if_pos c6] at hf
          exact s_Mod_substituted_175 X hk43 v0 v1 v4 v5 v6 v7 v8 v9 h _ _ _ hI (lv_sub hl [0, 1, 2, 3, 4, 5, 6, 7] rfl) hf
        · rw [if_neg c6] at hf
          exact s_Mod_substituted_152 X hk43 v0 v1 v4 v5 v6 v7 v8 v9 h _ _ _ hI (lv_sub hl [0, 1, 2, 3, 4, 5, 6, 7] rfl) hf
def f_Mod_substituted_114 (N : Nat) (k43 : Nat → Int32 → Int32 → Int32 → Int32 → Int32 → Int32 → Int32 → z_H → Option (Int32 × z_H)) (v0 : Nat) (v1 : Int32) (v4 : Int32) (v5 : Int32) (v6 : Int32) (v7 : Int32) (v8 : Int32) (v9 : Int32) (s0 : Int32) (h : z_H) : Option (Int32 × z_H) :=
  if s0 = 0 then
  (f_Mod_substituted_124 N k43 v0 v1 v4 v5 v6 v7 v8 v9 s0 h)
  else
  (z_b (some (v4 + 1)) fun x2 =>
  f_Mod_substituted_124 N k43 v0 v1 x2 v5 v6 v7 v8 v9 s0 h)
set_option maxRecDepth 20000 in
set_option maxHeartbeats 2000000 in
theorem s_Mod_substituted_114 (X : z_X p s m args meth c prog_14_method_57_code 11 (some .boolean) Ts "StreamForgeModel" D dA B) {N : Nat} {r : Int32} {h' : z_H} {k43 : Nat → Int32 → Int32 → Int32 → Int32 → Int32 → Int32 → Int32 → z_H → Option (Int32 × z_H)} (hk43 : ∀ (v0 : Nat) (v1 : Int32) (v2 : Int32) (v3 : Int32) (v4 : Int32) (v5 : Int32) (v6 : Int32) (v7 : Int32) (h : z_H) (H : Heap) (locs : List Loc) (ls : Array Slot), z_I D dA B h s.heap H locs → lv_has ls 11 [(0, .ref v0), (1, .int v1), (2, .int v2), (3, .int v3), (4, .int v4), (5, .int v5), (6, .int v6), (7, .int v7)] → k43 v0 v1 v2 v3 v4 v5 v6 v7 h = some (r, h') → W p l e (z_rm 3 86) s m args below meth c H locs 0 0 (MQ below (z_Q D dA B (some (.int r)) h') args s 0 0 (fun q => B ≤ q)) (F0 m 43 ls [])) : ∀ (v0 : Nat) (v1 : Int32) (v4 : Int32) (v5 : Int32) (v6 : Int32) (v7 : Int32) (v8 : Int32) (v9 : Int32) (s0 : Int32) (h : z_H) (H : Heap) (locs : List Loc) (ls : Array Slot), z_I D dA B h s.heap H locs → lv_has ls 11 [(0, .ref v0), (1, .int v1), (4, .int v4), (5, .int v5), (6, .int v6), (7, .int v7), (8, .int v8), (9, .int v9)] → f_Mod_substituted_114 N k43 v0 v1 v4 v5 v6 v7 v8 v9 s0 h = some (r, h') → W p l e (z_rm 3 86) s m args below meth c H locs 0 0 (MQ below (z_Q D dA B (some (.int r)) h') args s 0 0 (fun q => B ≤ q)) (F0 m 114 ls [.int s0]) := by
  have hx := z_hx X
  have hb := z_hb X
  intro v0 v1 v4 v5 v6 v7 v8 v9 s0 h H locs ls hI hl hf
  unfold f_Mod_substituted_114 at hf
  refine lv_istore (lv' := [(10, .int s0), (0, .ref v0), (1, .int v1), (4, .int v4), (5, .int v5), (6, .int v6), (7, .int v7), (8, .int v8), (9, .int v9)]) hx hb d_Mod_substituted_114 hl (by decide) rfl (fun ls hl => ?_)
  refine lv_iload hx hb d_Mod_substituted_116 (lv_at hl 0 rfl) ?_
  refine lv_if_eq (tgt := 124) hx hb d_Mod_substituted_118 (by decide) (fun c1 => ?_) (fun c1 => ?_)
  · rw [if_pos c1] at hf
    exact s_Mod_substituted_124 X hk43 v0 v1 v4 v5 v6 v7 v8 v9 s0 h _ _ _ hI (lv_sub hl [1, 2, 3, 4, 5, 6, 7, 8, 0] rfl) hf
  · rw [if_neg c1] at hf
    obtain ⟨x2, ex2, hf⟩ := z_bs hf
    refine lv_iinc (v := x2) (lv' := [(4, .int x2), (10, .int s0), (0, .ref v0), (1, .int v1), (5, .int v5), (6, .int v6), (7, .int v7), (8, .int v8), (9, .int v9)]) hx hb d_Mod_substituted_121 hl (k := 3) rfl (by rw [← Option.some.inj ex2]; rfl) (by decide) rfl (fun ls hl => ?_)
    exact s_Mod_substituted_124 X hk43 v0 v1 x2 v5 v6 v7 v8 v9 s0 h _ _ _ hI (lv_sub hl [2, 3, 0, 4, 5, 6, 7, 8, 1] rfl) hf
def f_Mod_substituted_283 (N : Nat)  (v0 : Nat) (h : z_H) : Option (Int32 × z_H) :=
  z_b (gO h v0 12) fun u1 =>
  z_b (f_Mod_full N v0 h) fun r2 =>
  z_b (zB (r2.1)) fun x3 =>
  some (x3, r2.2)
set_option maxRecDepth 20000 in
set_option maxHeartbeats 2000000 in
theorem s_Mod_substituted_283 (X : z_X p s m args meth c prog_14_method_57_code 11 (some .boolean) Ts "StreamForgeModel" D dA B) {N : Nat} {r : Int32} {h' : z_H}   : ∀ (v0 : Nat) (h : z_H) (H : Heap) (locs : List Loc) (ls : Array Slot), z_I D dA B h s.heap H locs → lv_has ls 11 [(0, .ref v0)] → f_Mod_substituted_283 N  v0 h = some (r, h') → W p l e (z_rm 3 86) s m args below meth c H locs 0 0 (MQ below (z_Q D dA B (some (.int r)) h') args s 0 0 (fun q => B ≤ q)) (F0 m 283 ls []) := by
  have hx := z_hx X
  have hb := z_hb X
  intro v0 h H locs ls hI hl hf
  unfold f_Mod_substituted_283 at hf
  refine lv_aload_n hx hb d_Mod_substituted_283 rfl (lv_at hl 0 rfl) ?_
  obtain ⟨u1, eu1, hf⟩ := z_bs hf
  obtain ⟨r2, er2, hf⟩ := z_bs hf
  refine z_callV (As := []) (rest := []) (r := (some (.int r2.1))) (h' := r2.2) X hI eu1 (s_Mod_full er2) rfl rfl wm_Mod_337 yi_Mod_full rfl hl.1 rfl (Nat.le_of_ble_eq_true rfl) (by decide) (by decide) d_Mod_substituted_284 (fun H locs hI => ?_)
  refine W.eq (g2 := F0 m 287 ls [.int (r2.1)]) rfl ?_
  obtain ⟨x3, ex3, hf⟩ := z_bs hf
  refine z_topi (zB_s ex3).1 ?_
  cases hf
  exact z_zret X hI (zB_s2 ex3) d_Mod_substituted_287
def f_Mod_substituted_291 (N : Nat)  : Nat → Nat → Int32 → Int32 → Int32 → z_H → Option (Int32 × z_H)
  | 0, _, _, _, _, _ => none
  | n + 1, v0, v1, v5, v8, h =>
    z_b (gI h v0 12 67) fun x1 =>
    if x1 ≤ v8 then
    (z_b (gI h v0 12 67) fun x3 =>
    z_b (sF h v0 12 65 (.int x3)) fun h4 =>
    z_b (gI h4 v0 12 73) fun x5 =>
    z_b (sF h4 v0 12 73 (.int (x5 + v5))) fun h6 =>
    z_b (sF h6 v0 12 74 (.int 1)) fun h7 =>
    z_b (gR h7 v0 12 23) fun x8 =>
    z_b (aI h7 x8 3 v1) fun x9 =>
    if x9 = 0 then
    (some (1, h7))
    else
    (z_b (gO h7 v0 12) fun u11 =>
    z_b (f_Mod_tellSpace N v0 0 h7) fun r12 =>
    if (r12.1) = 0 then
    (some (0, r12.2))
    else
    (some (1, r12.2))))
    else
    (z_b (gR h v0 12 58) fun x14 =>
    z_b (gR h v0 12 60) fun x15 =>
    z_b (aI h x15 0 v8) fun x16 =>
    z_b (uI h x14 0 v8 x16) fun h17 =>
    z_b (some (v8 + 1)) fun x18 =>
    (f_Mod_substituted_291 N  n) v0 v1 v5 x18 h17)
set_option maxRecDepth 20000 in
set_option maxHeartbeats 2000000 in
theorem s_Mod_substituted_291 (X : z_X p s m args meth c prog_14_method_57_code 11 (some .boolean) Ts "StreamForgeModel" D dA B) {N : Nat} {r : Int32} {h' : z_H}   : ∀ n : Nat, ∀ (v0 : Nat) (v1 : Int32) (v5 : Int32) (v8 : Int32) (h : z_H) (H : Heap) (locs : List Loc) (ls : Array Slot), z_I D dA B h s.heap H locs → lv_has ls 11 [(0, .ref v0), (1, .int v1), (5, .int v5), (8, .int v8)] → f_Mod_substituted_291 N  n v0 v1 v5 v8 h = some (r, h') → W p l e (z_rm 3 86) s m args below meth c H locs 0 0 (MQ below (z_Q D dA B (some (.int r)) h') args s 0 0 (fun q => B ≤ q)) (F0 m 291 ls []) := by
  have hx := z_hx X
  have hb := z_hb X
  intro n
  induction n with
  | zero => intro v0 v1 v5 v8 h H locs ls hI hl hf; rw [f_Mod_substituted_291] at hf; cases hf
  | succ n ih =>
    intro v0 v1 v5 v8 h H locs ls hI hl hf
    rw [f_Mod_substituted_291] at hf
    refine lv_iload hx hb d_Mod_substituted_291 (lv_at hl 3 rfl) ?_
    refine lv_aload_n hx hb d_Mod_substituted_293 rfl (lv_at hl 0 rfl) ?_
    obtain ⟨x1, ex1, hf⟩ := z_bs hf
    refine z_getF X hI (k := 67) (ci := 12) (gI_s ex1) i_Mod rfl (by decide) wf_Mod_334 d_Mod_substituted_294 ?_
    refine lv_icmp_ge (tgt := 320) hx hb d_Mod_substituted_297 (by decide) (fun c2 => ?_) (fun c2 => ?_)
    · rw [if_pos c2] at hf
      refine lv_aload_n hx hb d_Mod_substituted_320 rfl (lv_at hl 0 rfl) ?_
      refine lv_aload_n hx hb d_Mod_substituted_321 rfl (lv_at hl 0 rfl) ?_
      obtain ⟨x3, ex3, hf⟩ := z_bs hf
      refine z_getF X hI (k := 67) (ci := 12) (gI_s ex3) i_Mod rfl (by decide) wf_Mod_334 d_Mod_substituted_322 ?_
      obtain ⟨h4, eh4, hf⟩ := z_bs hf
      refine z_putF X hI (k := 65) (ci := 12) (ty0 := t_Mod) eh4 i_Mod t_Mod_ok n_Mod rfl (by decide) wf_Mod_319 rfl rfl rfl d_Mod_substituted_325 (fun H locs hI => ?_)
      refine lv_aload_n hx hb d_Mod_substituted_328 rfl (lv_at hl 0 rfl) ?_
      refine lv_dup hx hb d_Mod_substituted_329 rfl ?_
      obtain ⟨x5, ex5, hf⟩ := z_bs hf
      refine z_getF X hI (k := 73) (ci := 12) (gI_s ex5) i_Mod rfl (by decide) wf_Mod_368 d_Mod_substituted_330 ?_
      refine lv_iload hx hb d_Mod_substituted_333 (lv_at hl 2 rfl) ?_
      refine lv_iadd hx hb d_Mod_substituted_335 ?_
      obtain ⟨h6, eh6, hf⟩ := z_bs hf
      refine z_putF X hI (k := 73) (ci := 12) (ty0 := t_Mod) eh6 i_Mod t_Mod_ok n_Mod rfl (by decide) wf_Mod_368 rfl rfl rfl d_Mod_substituted_336 (fun H locs hI => ?_)
      refine lv_aload_n hx hb d_Mod_substituted_339 rfl (lv_at hl 0 rfl) ?_
      refine lv_iconst (v := 1) hx hb d_Mod_substituted_340 (by decide) ?_
      obtain ⟨h7, eh7, hf⟩ := z_bs hf
      refine z_putF X hI (k := 74) (ci := 12) (ty0 := t_Mod) eh7 i_Mod t_Mod_ok n_Mod rfl (by decide) wf_Mod_371 rfl rfl rfl d_Mod_substituted_341 (fun H locs hI => ?_)
      refine lv_aload_n hx hb d_Mod_substituted_344 rfl (lv_at hl 0 rfl) ?_
      obtain ⟨x8, ex8, hf⟩ := z_bs hf
      refine z_getF X hI (k := 23) (ci := 12) (gR_s ex8) i_Mod rfl (by decide) wf_Mod_66 d_Mod_substituted_345 ?_
      refine lv_iload_n hx hb d_Mod_substituted_348 rfl (lv_at hl 1 rfl) ?_
      obtain ⟨x9, ex9, hf⟩ := z_bs hf
      refine z_zald X hI ex9 d_Mod_substituted_349 ?_
      refine lv_if_eq (tgt := 361) hx hb d_Mod_substituted_350 (by decide) (fun c10 => ?_) (fun c10 => ?_)
      · rw [if_pos c10] at hf
        refine lv_iconst (v := 1) hx hb d_Mod_substituted_361 (by decide) ?_
        refine lv_goto (tgt := 366) hx hb d_Mod_substituted_362 (by decide) ?_
        cases hf
        exact z_zret X hI (Or.inr rfl) d_Mod_substituted_366
      · rw [if_neg c10] at hf
        refine lv_aload_n hx hb d_Mod_substituted_353 rfl (lv_at hl 0 rfl) ?_
        refine lv_iconst (v := 0) hx hb d_Mod_substituted_354 (by decide) ?_
        obtain ⟨u11, eu11, hf⟩ := z_bs hf
        obtain ⟨r12, er12, hf⟩ := z_bs hf
        refine z_callV (As := [.int 0]) (rest := []) (r := (some (.int r12.1))) (h' := r12.2) X hI eu11 (s_Mod_tellSpace er12) rfl rfl wm_Mod_374 yi_Mod_tellSpace rfl hl.1 rfl (Nat.le_of_ble_eq_true rfl) (by decide) (by decide) d_Mod_substituted_355 (fun H locs hI => ?_)
        refine W.eq (g2 := F0 m 358 ls [.int (r12.1)]) rfl ?_
        refine lv_if_eq (tgt := 365) hx hb d_Mod_substituted_358 (by decide) (fun c13 => ?_) (fun c13 => ?_)
        · rw [if_pos c13] at hf
          refine lv_iconst (v := 0) hx hb d_Mod_substituted_365 (by decide) ?_
          cases hf
          exact z_zret X hI (Or.inl rfl) d_Mod_substituted_366
        · rw [if_neg c13] at hf
          refine lv_iconst (v := 1) hx hb d_Mod_substituted_361 (by decide) ?_
          refine lv_goto (tgt := 366) hx hb d_Mod_substituted_362 (by decide) ?_
          cases hf
          exact z_zret X hI (Or.inr rfl) d_Mod_substituted_366
    · rw [if_neg c2] at hf
      refine lv_aload_n hx hb d_Mod_substituted_300 rfl (lv_at hl 0 rfl) ?_
      obtain ⟨x14, ex14, hf⟩ := z_bs hf
      refine z_getF X hI (k := 58) (ci := 12) (gR_s ex14) i_Mod rfl (by decide) wf_Mod_130 d_Mod_substituted_301 ?_
      refine lv_iload hx hb d_Mod_substituted_304 (lv_at hl 3 rfl) ?_
      refine lv_aload_n hx hb d_Mod_substituted_306 rfl (lv_at hl 0 rfl) ?_
      obtain ⟨x15, ex15, hf⟩ := z_bs hf
      refine z_getF X hI (k := 60) (ci := 12) (gR_s ex15) i_Mod rfl (by decide) wf_Mod_136 d_Mod_substituted_307 ?_
      refine lv_iload hx hb d_Mod_substituted_310 (lv_at hl 3 rfl) ?_
      obtain ⟨x16, ex16, hf⟩ := z_bs hf
      refine z_iald X hI ex16 d_Mod_substituted_312 ?_
      obtain ⟨h17, eh17, hf⟩ := z_bs hf
      refine z_iast X hI eh17 d_Mod_substituted_313 (fun H locs hI => ?_)
      obtain ⟨x18, ex18, hf⟩ := z_bs hf
      refine lv_iinc (v := x18) (lv' := [(8, .int x18), (0, .ref v0), (1, .int v1), (5, .int v5)]) hx hb d_Mod_substituted_314 hl (k := 3) rfl (by rw [← Option.some.inj ex18]; rfl) (by decide) rfl (fun ls hl => ?_)
      refine lv_goto (tgt := 291) hx hb d_Mod_substituted_317 (by decide) ?_
      exact ih v0 v1 v5 x18 h17 _ _ _ hI (lv_sub hl [1, 2, 3, 0] rfl) hf
def f_Mod_substituted_248 (N : Nat)  (v0 : Nat) (v1 : Int32) (v5 : Int32) (h : z_H) : Option (Int32 × z_H) :=
  z_b (gI h v0 12 67) fun x1 =>
  if 60 < x1 then
  (f_Mod_substituted_283 N v0 h)
  else
  (z_b (gR h v0 12 23) fun x3 =>
  z_b (aI h x3 3 v1) fun x4 =>
  if x4 = 0 then
  (f_Mod_substituted_291 N N v0 v1 v5 0 h)
  else
  (z_b (gI h v0 12 69) fun x6 =>
  z_b (gI h v0 12 67) fun x7 =>
  if ((x6 + x7) + 1) ≤ 600 then
  (f_Mod_substituted_291 N N v0 v1 v5 0 h)
  else
  (f_Mod_substituted_283 N v0 h)))
set_option maxRecDepth 20000 in
set_option maxHeartbeats 2000000 in
theorem s_Mod_substituted_248 (X : z_X p s m args meth c prog_14_method_57_code 11 (some .boolean) Ts "StreamForgeModel" D dA B) {N : Nat} {r : Int32} {h' : z_H}   : ∀ (v0 : Nat) (v1 : Int32) (v5 : Int32) (h : z_H) (H : Heap) (locs : List Loc) (ls : Array Slot), z_I D dA B h s.heap H locs → lv_has ls 11 [(0, .ref v0), (1, .int v1), (5, .int v5)] → f_Mod_substituted_248 N  v0 v1 v5 h = some (r, h') → W p l e (z_rm 3 86) s m args below meth c H locs 0 0 (MQ below (z_Q D dA B (some (.int r)) h') args s 0 0 (fun q => B ≤ q)) (F0 m 248 ls []) := by
  have hx := z_hx X
  have hb := z_hb X
  intro v0 v1 v5 h H locs ls hI hl hf
  unfold f_Mod_substituted_248 at hf
  refine lv_aload_n hx hb d_Mod_substituted_248 rfl (lv_at hl 0 rfl) ?_
  obtain ⟨x1, ex1, hf⟩ := z_bs hf
  refine z_getF X hI (k := 67) (ci := 12) (gI_s ex1) i_Mod rfl (by decide) wf_Mod_334 d_Mod_substituted_249 ?_
  refine lv_bipush (v := 60) hx hb d_Mod_substituted_252 (by decide) ?_
  refine lv_icmp_gt (tgt := 283) hx hb d_Mod_substituted_254 (by decide) (fun c2 => ?_) (fun c2 => ?_)
  · rw [if_pos c2] at hf
    exact s_Mod_substituted_283 X  v0 h _ _ _ hI (lv_sub hl [0] rfl) hf
  · rw [if_neg c2] at hf
    refine lv_aload_n hx hb d_Mod_substituted_257 rfl (lv_at hl 0 rfl) ?_
    obtain ⟨x3, ex3, hf⟩ := z_bs hf
    refine z_getF X hI (k := 23) (ci := 12) (gR_s ex3) i_Mod rfl (by decide) wf_Mod_66 d_Mod_substituted_258 ?_
    refine lv_iload_n hx hb d_Mod_substituted_261 rfl (lv_at hl 1 rfl) ?_
    obtain ⟨x4, ex4, hf⟩ := z_bs hf
    refine z_zald X hI ex4 d_Mod_substituted_262 ?_
    refine lv_if_eq (tgt := 288) hx hb d_Mod_substituted_263 (by decide) (fun c5 => ?_) (fun c5 => ?_)
    · rw [if_pos c5] at hf
      refine lv_iconst (v := 0) hx hb d_Mod_substituted_288 (by decide) ?_
      refine lv_istore (lv' := [(8, .int 0), (0, .ref v0), (1, .int v1), (5, .int v5)]) hx hb d_Mod_substituted_289 hl (by decide) rfl (fun ls hl => ?_)
      exact s_Mod_substituted_291 X  N v0 v1 v5 0 h _ _ _ hI (lv_sub hl [1, 2, 3, 0] rfl) hf
    · rw [if_neg c5] at hf
      refine lv_aload_n hx hb d_Mod_substituted_266 rfl (lv_at hl 0 rfl) ?_
      obtain ⟨x6, ex6, hf⟩ := z_bs hf
      refine z_getF X hI (k := 69) (ci := 12) (gI_s ex6) i_Mod rfl (by decide) wf_Mod_331 d_Mod_substituted_267 ?_
      refine lv_aload_n hx hb d_Mod_substituted_270 rfl (lv_at hl 0 rfl) ?_
      obtain ⟨x7, ex7, hf⟩ := z_bs hf
      refine z_getF X hI (k := 67) (ci := 12) (gI_s ex7) i_Mod rfl (by decide) wf_Mod_334 d_Mod_substituted_271 ?_
      refine lv_iadd hx hb d_Mod_substituted_274 ?_
      refine lv_iconst (v := 1) hx hb d_Mod_substituted_275 (by decide) ?_
      refine lv_iadd hx hb d_Mod_substituted_276 ?_
      refine lv_sipush (v := 600) hx hb d_Mod_substituted_277 (by decide) ?_
      refine lv_icmp_le (tgt := 288) hx hb d_Mod_substituted_280 (by decide) (fun c8 => ?_) (fun c8 => ?_)
      · rw [if_pos c8] at hf
        refine lv_iconst (v := 0) hx hb d_Mod_substituted_288 (by decide) ?_
        refine lv_istore (lv' := [(8, .int 0), (0, .ref v0), (1, .int v1), (5, .int v5)]) hx hb d_Mod_substituted_289 hl (by decide) rfl (fun ls hl => ?_)
        exact s_Mod_substituted_291 X  N v0 v1 v5 0 h _ _ _ hI (lv_sub hl [1, 2, 3, 0] rfl) hf
      · rw [if_neg c8] at hf
        exact s_Mod_substituted_283 X  v0 h _ _ _ hI (lv_sub hl [0] rfl) hf
def f_Mod_substituted_224 (N : Nat)  (v0 : Nat) (v1 : Int32) (v2 : Int32) (v5 : Int32) (h : z_H) : Option (Int32 × z_H) :=
  if v5 = 0 then
  (some (1, h))
  else
  (z_b (gI h v0 12 54) fun x2 =>
  if x2 ≤ v2 then
  (f_Mod_substituted_248 N v0 v1 v5 h)
  else
  (z_b (gI h v0 12 54) fun x4 =>
  z_b (gO h v0 12) fun u5 =>
  z_b (f_Mod_copyOf N v0 v2 x4 h) fun r6 =>
  f_Mod_substituted_248 N v0 v1 v5 r6))
set_option maxRecDepth 20000 in
set_option maxHeartbeats 2000000 in
theorem s_Mod_substituted_224 (X : z_X p s m args meth c prog_14_method_57_code 11 (some .boolean) Ts "StreamForgeModel" D dA B) {N : Nat} {r : Int32} {h' : z_H}   : ∀ (v0 : Nat) (v1 : Int32) (v2 : Int32) (v5 : Int32) (h : z_H) (H : Heap) (locs : List Loc) (ls : Array Slot), z_I D dA B h s.heap H locs → lv_has ls 11 [(0, .ref v0), (1, .int v1), (2, .int v2), (5, .int v5)] → f_Mod_substituted_224 N  v0 v1 v2 v5 h = some (r, h') → W p l e (z_rm 3 86) s m args below meth c H locs 0 0 (MQ below (z_Q D dA B (some (.int r)) h') args s 0 0 (fun q => B ≤ q)) (F0 m 224 ls []) := by
  have hx := z_hx X
  have hb := z_hb X
  intro v0 v1 v2 v5 h H locs ls hI hl hf
  unfold f_Mod_substituted_224 at hf
  refine lv_iload hx hb d_Mod_substituted_224 (lv_at hl 3 rfl) ?_
  refine lv_if_ne (tgt := 231) hx hb d_Mod_substituted_226 (by decide) (fun c1 => ?_) (fun c1 => ?_)
  · rw [if_neg c1] at hf
    refine lv_iload_n hx hb d_Mod_substituted_231 rfl (lv_at hl 2 rfl) ?_
    refine lv_aload_n hx hb d_Mod_substituted_232 rfl (lv_at hl 0 rfl) ?_
    obtain ⟨x2, ex2, hf⟩ := z_bs hf
    refine z_getF X hI (k := 54) (ci := 12) (gI_s ex2) i_Mod rfl (by decide) wf_Mod_299 d_Mod_substituted_233 ?_
    refine lv_icmp_ge (tgt := 248) hx hb d_Mod_substituted_236 (by decide) (fun c3 => ?_) (fun c3 => ?_)
    · rw [if_pos c3] at hf
      exact s_Mod_substituted_248 X  v0 v1 v5 h _ _ _ hI (lv_sub hl [0, 1, 3] rfl) hf
    · rw [if_neg c3] at hf
      refine lv_aload_n hx hb d_Mod_substituted_239 rfl (lv_at hl 0 rfl) ?_
      refine lv_iload_n hx hb d_Mod_substituted_240 rfl (lv_at hl 2 rfl) ?_
      refine lv_aload_n hx hb d_Mod_substituted_241 rfl (lv_at hl 0 rfl) ?_
      obtain ⟨x4, ex4, hf⟩ := z_bs hf
      refine z_getF X hI (k := 54) (ci := 12) (gI_s ex4) i_Mod rfl (by decide) wf_Mod_299 d_Mod_substituted_242 ?_
      obtain ⟨u5, eu5, hf⟩ := z_bs hf
      obtain ⟨r6, er6, hf⟩ := z_bs hf
      refine z_callV (As := [.int v2, .int x4]) (rest := []) (r := none) (h' := r6) X hI eu5 (s_Mod_copyOf er6) rfl rfl wm_Mod_361 yi_Mod_copyOf rfl hl.1 rfl (Nat.le_of_ble_eq_true rfl) (by decide) (by decide) d_Mod_substituted_245 (fun H locs hI => ?_)
      refine W.eq (g2 := F0 m 248 ls []) rfl ?_
      exact s_Mod_substituted_248 X  v0 v1 v5 r6 _ _ _ hI (lv_sub hl [0, 1, 3] rfl) hf
  · rw [if_pos c1] at hf
    refine lv_iconst (v := 1) hx hb d_Mod_substituted_229 (by decide) ?_
    cases hf
    exact z_zret X hI (Or.inr rfl) d_Mod_substituted_230
def f_Mod_substituted_43 (N : Nat)  : Nat → Nat → Int32 → Int32 → Int32 → Int32 → Int32 → Int32 → Int32 → z_H → Option (Int32 × z_H)
  | 0, _, _, _, _, _, _, _, _, _ => none
  | n + 1, v0, v1, v2, v3, v4, v5, v6, v7, h =>
    if v7 = 0 then
    (f_Mod_substituted_224 N v0 v1 v2 v5 h)
    else
    (z_b (gI h v0 12 54) fun x2 =>
    if x2 < v2 then
    (f_Mod_substituted_224 N v0 v1 v2 v5 h)
    else
    (z_b (gR h v0 12 14) fun x4 =>
    z_b (aI h x4 0 v1) fun x5 =>
    z_b (gO h v0 12) fun u6 =>
    z_b (f_Mod_find N v0 x5 v2 h) fun r7 =>
    z_b (some (r7.1)) fun x8 =>
    if x8 = 0 then
    ((f_Mod_substituted_43 N  n) v0 v1 v2 v3 v4 v5 v6 x8 r7.2)
    else
    (z_b (gI r7.2 v0 12 56) fun x10 =>
    z_b (gI r7.2 v0 12 57) fun x11 =>
    z_b (gO r7.2 v0 12) fun u12 =>
    z_b (f_Mod_copyOf N v0 v2 x10 r7.2) fun r13 =>
    if x10 < x11 then
    (f_Mod_substituted_114 N (f_Mod_substituted_43 N  n) v0 v1 v4 v5 v6 x8 x10 x11 1 r13)
    else
    (if x10 = v3 then
    (f_Mod_substituted_114 N (f_Mod_substituted_43 N  n) v0 v1 v4 v5 v6 x8 x10 x11 0 r13)
    else
    (f_Mod_substituted_114 N (f_Mod_substituted_43 N  n) v0 v1 v4 v5 v6 x8 x10 x11 1 r13)))))
set_option maxRecDepth 20000 in
set_option maxHeartbeats 2000000 in
theorem s_Mod_substituted_43 (X : z_X p s m args meth c prog_14_method_57_code 11 (some .boolean) Ts "StreamForgeModel" D dA B) {N : Nat} {r : Int32} {h' : z_H}   : ∀ n : Nat, ∀ (v0 : Nat) (v1 : Int32) (v2 : Int32) (v3 : Int32) (v4 : Int32) (v5 : Int32) (v6 : Int32) (v7 : Int32) (h : z_H) (H : Heap) (locs : List Loc) (ls : Array Slot), z_I D dA B h s.heap H locs → lv_has ls 11 [(0, .ref v0), (1, .int v1), (2, .int v2), (3, .int v3), (4, .int v4), (5, .int v5), (6, .int v6), (7, .int v7)] → f_Mod_substituted_43 N  n v0 v1 v2 v3 v4 v5 v6 v7 h = some (r, h') → W p l e (z_rm 3 86) s m args below meth c H locs 0 0 (MQ below (z_Q D dA B (some (.int r)) h') args s 0 0 (fun q => B ≤ q)) (F0 m 43 ls []) := by
  have hx := z_hx X
  have hb := z_hb X
  intro n
  induction n with
  | zero => intro v0 v1 v2 v3 v4 v5 v6 v7 h H locs ls hI hl hf; rw [f_Mod_substituted_43] at hf; cases hf
  | succ n ih =>
    intro v0 v1 v2 v3 v4 v5 v6 v7 h H locs ls hI hl hf
    rw [f_Mod_substituted_43] at hf
    refine lv_iload hx hb d_Mod_substituted_43 (lv_at hl 7 rfl) ?_
    refine lv_if_eq (tgt := 224) hx hb d_Mod_substituted_45 (by decide) (fun c1 => ?_) (fun c1 => ?_)
    · rw [if_pos c1] at hf
      exact s_Mod_substituted_224 X  v0 v1 v2 v5 h _ _ _ hI (lv_sub hl [0, 1, 2, 5] rfl) hf
    · rw [if_neg c1] at hf
      refine lv_iload_n hx hb d_Mod_substituted_48 rfl (lv_at hl 2 rfl) ?_
      refine lv_aload_n hx hb d_Mod_substituted_49 rfl (lv_at hl 0 rfl) ?_
      obtain ⟨x2, ex2, hf⟩ := z_bs hf
      refine z_getF X hI (k := 54) (ci := 12) (gI_s ex2) i_Mod rfl (by decide) wf_Mod_299 d_Mod_substituted_50 ?_
      refine lv_icmp_gt (tgt := 224) hx hb d_Mod_substituted_53 (by decide) (fun c3 => ?_) (fun c3 => ?_)
      · rw [if_pos c3] at hf
        exact s_Mod_substituted_224 X  v0 v1 v2 v5 h _ _ _ hI (lv_sub hl [0, 1, 2, 5] rfl) hf
      · rw [if_neg c3] at hf
        refine lv_aload_n hx hb d_Mod_substituted_56 rfl (lv_at hl 0 rfl) ?_
        refine lv_aload_n hx hb d_Mod_substituted_57 rfl (lv_at hl 0 rfl) ?_
        obtain ⟨x4, ex4, hf⟩ := z_bs hf
        refine z_getF X hI (k := 14) (ci := 12) (gR_s ex4) i_Mod rfl (by decide) wf_Mod_38 d_Mod_substituted_58 ?_
        refine lv_iload_n hx hb d_Mod_substituted_61 rfl (lv_at hl 1 rfl) ?_
        obtain ⟨x5, ex5, hf⟩ := z_bs hf
        refine z_iald X hI ex5 d_Mod_substituted_62 ?_
        refine lv_iload_n hx hb d_Mod_substituted_63 rfl (lv_at hl 2 rfl) ?_
        obtain ⟨u6, eu6, hf⟩ := z_bs hf
        obtain ⟨r7, er7, hf⟩ := z_bs hf
        refine z_callV (As := [.int x5, .int v2]) (rest := []) (r := (some (.int r7.1))) (h' := r7.2) X hI eu6 (s_Mod_find er7) rfl rfl wm_Mod_325 yi_Mod_find rfl hl.1 rfl (Nat.le_of_ble_eq_true rfl) (by decide) (by decide) d_Mod_substituted_64 (fun H locs hI => ?_)
        refine W.eq (g2 := F0 m 67 ls [.int (r7.1)]) rfl ?_
        obtain ⟨x8, ex8, hf⟩ := z_bs hf
        refine z_topi (Option.some.inj ex8) ?_
        refine lv_istore (lv' := [(7, .int x8), (0, .ref v0), (1, .int v1), (2, .int v2), (3, .int v3), (4, .int v4), (5, .int v5), (6, .int v6)]) hx hb d_Mod_substituted_67 hl (by decide) rfl (fun ls hl => ?_)
        refine lv_iload hx hb d_Mod_substituted_69 (lv_at hl 0 rfl) ?_
        refine lv_if_ne (tgt := 77) hx hb d_Mod_substituted_71 (by decide) (fun c9 => ?_) (fun c9 => ?_)
        · rw [if_neg c9] at hf
          refine lv_aload_n hx hb d_Mod_substituted_77 rfl (lv_at hl 1 rfl) ?_
          obtain ⟨x10, ex10, hf⟩ := z_bs hf
          refine z_getF X hI (k := 56) (ci := 12) (gI_s ex10) i_Mod rfl (by decide) wf_Mod_313 d_Mod_substituted_78 ?_
          refine lv_istore (lv' := [(8, .int x10), (7, .int x8), (0, .ref v0), (1, .int v1), (2, .int v2), (3, .int v3), (4, .int v4), (5, .int v5), (6, .int v6)]) hx hb d_Mod_substituted_81 hl (by decide) rfl (fun ls hl => ?_)
          refine lv_aload_n hx hb d_Mod_substituted_83 rfl (lv_at hl 2 rfl) ?_
          obtain ⟨x11, ex11, hf⟩ := z_bs hf
          refine z_getF X hI (k := 57) (ci := 12) (gI_s ex11) i_Mod rfl (by decide) wf_Mod_316 d_Mod_substituted_84 ?_
          refine lv_istore (lv' := [(9, .int x11), (8, .int x10), (7, .int x8), (0, .ref v0), (1, .int v1), (2, .int v2), (3, .int v3), (4, .int v4), (5, .int v5), (6, .int v6)]) hx hb d_Mod_substituted_87 hl (by decide) rfl (fun ls hl => ?_)
          refine lv_aload_n hx hb d_Mod_substituted_89 rfl (lv_at hl 3 rfl) ?_
          refine lv_iload_n hx hb d_Mod_substituted_90 rfl (lv_at hl 5 rfl) ?_
          refine lv_iload hx hb d_Mod_substituted_91 (lv_at hl 1 rfl) ?_
          obtain ⟨u12, eu12, hf⟩ := z_bs hf
          obtain ⟨r13, er13, hf⟩ := z_bs hf
          refine z_callV (As := [.int v2, .int x10]) (rest := []) (r := none) (h' := r13) X hI eu12 (s_Mod_copyOf er13) rfl rfl wm_Mod_361 yi_Mod_copyOf rfl hl.1 rfl (Nat.le_of_ble_eq_true rfl) (by decide) (by decide) d_Mod_substituted_93 (fun H locs hI => ?_)
          refine W.eq (g2 := F0 m 96 ls []) rfl ?_
          refine lv_iload hx hb d_Mod_substituted_96 (lv_at hl 0 rfl) ?_
          refine lv_iload hx hb d_Mod_substituted_98 (lv_at hl 1 rfl) ?_
          refine lv_icmp_gt (tgt := 109) hx hb d_Mod_substituted_100 (by decide) (fun c14 => ?_) (fun c14 => ?_)
          · rw [if_pos c14] at hf
            refine lv_iconst (v := 1) hx hb d_Mod_substituted_109 (by decide) ?_
            refine lv_goto (tgt := 114) hx hb d_Mod_substituted_110 (by decide) ?_
            exact s_Mod_substituted_114 X ih v0 v1 v4 v5 v6 x8 x10 x11 1 r13 _ _ _ hI (lv_sub hl [3, 4, 7, 8, 9, 2, 1, 0] rfl) hf
          · rw [if_neg c14] at hf
            refine lv_iload hx hb d_Mod_substituted_103 (lv_at hl 1 rfl) ?_
            refine lv_iload_n hx hb d_Mod_substituted_105 rfl (lv_at hl 6 rfl) ?_
            refine lv_icmp_eq (tgt := 113) hx hb d_Mod_substituted_106 (by decide) (fun c15 => ?_) (fun c15 => ?_)
            · rw [if_pos c15] at hf
              refine lv_iconst (v := 0) hx hb d_Mod_substituted_113 (by decide) ?_
              exact s_Mod_substituted_114 X ih v0 v1 v4 v5 v6 x8 x10 x11 0 r13 _ _ _ hI (lv_sub hl [3, 4, 7, 8, 9, 2, 1, 0] rfl) hf
            · rw [if_neg c15] at hf
              refine lv_iconst (v := 1) hx hb d_Mod_substituted_109 (by decide) ?_
              refine lv_goto (tgt := 114) hx hb d_Mod_substituted_110 (by decide) ?_
              exact s_Mod_substituted_114 X ih v0 v1 v4 v5 v6 x8 x10 x11 1 r13 _ _ _ hI (lv_sub hl [3, 4, 7, 8, 9, 2, 1, 0] rfl) hf
        · rw [if_pos c9] at hf
          refine lv_goto (tgt := 43) hx hb d_Mod_substituted_74 (by decide) ?_
          exact ih v0 v1 v2 v3 v4 v5 v6 x8 r7.2 _ _ _ hI (lv_sub hl [1, 2, 3, 4, 5, 6, 7, 0] rfl) hf
def f_Mod_substituted (N : Nat) (v0 : Nat) (v1 : Int32) (h : z_H) : Option (Int32 × z_H) :=
  z_b (gO h v0 12) fun u1 =>
  z_b (f_Mod_takeSpace N v0 h) fun r2 =>
  z_b (sF r2 v0 12 67 (.int 0)) fun h3 =>
  z_b (some ((-1))) fun x4 =>
  z_b (gR h3 v0 12 19) fun x5 =>
  z_b (aI h3 x5 0 v1) fun x6 =>
  if x6 ≤ 0 then
  (f_Mod_substituted_43 N N v0 v1 0 x4 0 0 1 1 h3)
  else
  (z_b (gR h3 v0 12 19) fun x8 =>
  z_b (aI h3 x8 0 v1) fun x9 =>
  f_Mod_substituted_43 N N v0 v1 0 x4 0 0 x9 1 h3)
set_option maxRecDepth 20000 in
set_option maxHeartbeats 2000000 in
theorem s_Mod_substituted {l : Launch} {D : va_G} {dA : Nat → ClassId} {B N : Nat} {v0 : Nat} {v1 : Int32} {h h' : z_H} {r : Int32} (hf : f_Mod_substituted N v0 v1 h = some (r, h')) : z_Met l y_Mod_substituted prog_14_method_57_code 11 (some .boolean) 3 86 D dA B [.ref v0, .int v1] h (some (.int r)) h' := by
  refine z_of (by decide) (Nat.le_of_ble_eq_true rfl) (fun p e s m below meth c ls X hI hl => ?_)
  have hx := z_hx X
  have hb := z_hb X
  have hl : lv_has ls 11 [(0, .ref v0), (1, .int v1)] := hl
  unfold f_Mod_substituted at hf
  obtain ⟨locs, hlo⟩ : ∃ z : List Loc, z = [] := ⟨_, rfl⟩
  rw [← hlo] at hI ⊢
  refine lv_aload_n hx hb d_Mod_substituted_0 rfl (lv_at hl 0 rfl) ?_
  obtain ⟨u1, eu1, hf⟩ := z_bs hf
  obtain ⟨r2, er2, hf⟩ := z_bs hf
  refine z_callV (As := []) (rest := []) (r := none) (h' := r2) X hI eu1 (s_Mod_takeSpace er2) rfl rfl wm_Mod_349 yi_Mod_takeSpace rfl hl.1 rfl (Nat.le_of_ble_eq_true rfl) (by decide) (by decide) d_Mod_substituted_1 (fun H locs hI => ?_)
  refine W.eq (g2 := F0 m 4 ls []) rfl ?_
  refine lv_aload_n hx hb d_Mod_substituted_4 rfl (lv_at hl 0 rfl) ?_
  refine lv_iconst (v := 0) hx hb d_Mod_substituted_5 (by decide) ?_
  obtain ⟨h3, eh3, hf⟩ := z_bs hf
  refine z_putF X hI (k := 67) (ci := 12) (ty0 := t_Mod) eh3 i_Mod t_Mod_ok n_Mod rfl (by decide) wf_Mod_334 rfl rfl rfl d_Mod_substituted_6 (fun H locs hI => ?_)
  refine lv_iconst (v := 0) hx hb d_Mod_substituted_9 (by decide) ?_
  refine lv_istore_n (lv' := [(2, .int 0), (0, .ref v0), (1, .int v1)]) hx hb d_Mod_substituted_10 rfl hl (by decide) rfl (fun ls hl => ?_)
  refine lv_iconst (v := (-1)) hx hb d_Mod_substituted_11 (by decide) ?_
  obtain ⟨x4, ex4, hf⟩ := z_bs hf
  refine z_topi (Option.some.inj ex4) ?_
  refine lv_istore_n (lv' := [(3, .int x4), (2, .int 0), (0, .ref v0), (1, .int v1)]) hx hb d_Mod_substituted_12 rfl hl (by decide) rfl (fun ls hl => ?_)
  refine lv_iconst (v := 0) hx hb d_Mod_substituted_13 (by decide) ?_
  refine lv_istore (lv' := [(4, .int 0), (3, .int x4), (2, .int 0), (0, .ref v0), (1, .int v1)]) hx hb d_Mod_substituted_14 hl (by decide) rfl (fun ls hl => ?_)
  refine lv_iconst (v := 0) hx hb d_Mod_substituted_16 (by decide) ?_
  refine lv_istore (lv' := [(5, .int 0), (4, .int 0), (3, .int x4), (2, .int 0), (0, .ref v0), (1, .int v1)]) hx hb d_Mod_substituted_17 hl (by decide) rfl (fun ls hl => ?_)
  refine lv_aload_n hx hb d_Mod_substituted_19 rfl (lv_at hl 4 rfl) ?_
  obtain ⟨x5, ex5, hf⟩ := z_bs hf
  refine z_getF X hI (k := 19) (ci := 12) (gR_s ex5) i_Mod rfl (by decide) wf_Mod_53 d_Mod_substituted_20 ?_
  refine lv_iload_n hx hb d_Mod_substituted_23 rfl (lv_at hl 5 rfl) ?_
  obtain ⟨x6, ex6, hf⟩ := z_bs hf
  refine z_iald X hI ex6 d_Mod_substituted_24 ?_
  refine lv_if_le (tgt := 37) hx hb d_Mod_substituted_25 (by decide) (fun c7 => ?_) (fun c7 => ?_)
  · rw [if_pos c7] at hf
    refine lv_iconst (v := 1) hx hb d_Mod_substituted_37 (by decide) ?_
    refine lv_istore (lv' := [(6, .int 1), (5, .int 0), (4, .int 0), (3, .int x4), (2, .int 0), (0, .ref v0), (1, .int v1)]) hx hb d_Mod_substituted_38 hl (by decide) rfl (fun ls hl => ?_)
    refine lv_iconst (v := 1) hx hb d_Mod_substituted_40 (by decide) ?_
    refine lv_istore (lv' := [(7, .int 1), (6, .int 1), (5, .int 0), (4, .int 0), (3, .int x4), (2, .int 0), (0, .ref v0), (1, .int v1)]) hx hb d_Mod_substituted_41 hl (by decide) rfl (fun ls hl => ?_)
    exact s_Mod_substituted_43 X  N v0 v1 0 x4 0 0 1 1 h3 _ _ _ hI (lv_sub hl [6, 7, 5, 4, 3, 2, 1, 0] rfl) hf
  · rw [if_neg c7] at hf
    refine lv_aload_n hx hb d_Mod_substituted_28 rfl (lv_at hl 4 rfl) ?_
    obtain ⟨x8, ex8, hf⟩ := z_bs hf
    refine z_getF X hI (k := 19) (ci := 12) (gR_s ex8) i_Mod rfl (by decide) wf_Mod_53 d_Mod_substituted_29 ?_
    refine lv_iload_n hx hb d_Mod_substituted_32 rfl (lv_at hl 5 rfl) ?_
    obtain ⟨x9, ex9, hf⟩ := z_bs hf
    refine z_iald X hI ex9 d_Mod_substituted_33 ?_
    refine lv_goto (tgt := 38) hx hb d_Mod_substituted_34 (by decide) ?_
    refine lv_istore (lv' := [(6, .int x9), (5, .int 0), (4, .int 0), (3, .int x4), (2, .int 0), (0, .ref v0), (1, .int v1)]) hx hb d_Mod_substituted_38 hl (by decide) rfl (fun ls hl => ?_)
    refine lv_iconst (v := 1) hx hb d_Mod_substituted_40 (by decide) ?_
    refine lv_istore (lv' := [(7, .int 1), (6, .int x9), (5, .int 0), (4, .int 0), (3, .int x4), (2, .int 0), (0, .ref v0), (1, .int v1)]) hx hb d_Mod_substituted_41 hl (by decide) rfl (fun ls hl => ?_)
    exact s_Mod_substituted_43 X  N v0 v1 0 x4 0 0 x9 1 h3 _ _ _ hI (lv_sub hl [6, 7, 5, 4, 3, 2, 1, 0] rfl) hf
def f_Mod_exchanged_35 (N : Nat) (k16 : Nat → Int32 → Int32 → Int32 → z_H → Option z_H) : Nat → Nat → Int32 → Int32 → Int32 → Int32 → Int32 → z_H → Option z_H
  | 0, _, _, _, _, _, _, _ => none
  | n + 1, v0, v1, v2, v3, v4, v5, h =>
    if v2 ≤ v5 then
    (z_b (some (v3 + 1)) fun x2 =>
    k16 v0 v1 v2 x2 h)
    else
    (z_b (gR h v0 12 33) fun x3 =>
    z_b (gR h v0 12 15) fun x4 =>
    z_b (aI h x4 0 v1) fun x5 =>
    z_b (aI h x3 0 (x5 + v5)) fun x6 =>
    if x6 = v4 then
    (z_b (gR h v0 12 58) fun x9 =>
    z_b (gR h v0 12 33) fun x10 =>
    z_b (gR h v0 12 17) fun x11 =>
    z_b (aI h x11 0 v1) fun x12 =>
    z_b (aI h x10 0 (x12 + v5)) fun x13 =>
    z_b (uI h x9 0 v3 x13) fun h14 =>
    z_b (some (v5 + 1)) fun x15 =>
    (f_Mod_exchanged_35 N k16 n) v0 v1 v2 v3 v4 x15 h14)
    else
    (z_b (some (v5 + 1)) fun x8 =>
    (f_Mod_exchanged_35 N k16 n) v0 v1 v2 v3 v4 x8 h))
set_option maxRecDepth 20000 in
set_option maxHeartbeats 2000000 in
theorem s_Mod_exchanged_35 (X : z_X p s m args meth c prog_14_method_58_code 6 none Ts "StreamForgeModel" D dA B) {N : Nat} {h' : z_H} {k16 : Nat → Int32 → Int32 → Int32 → z_H → Option z_H} (hk16 : ∀ (v0 : Nat) (v1 : Int32) (v2 : Int32) (v3 : Int32) (h : z_H) (H : Heap) (locs : List Loc) (ls : Array Slot), z_I D dA B h s.heap H locs → lv_has ls 6 [(0, .ref v0), (1, .int v1), (2, .int v2), (3, .int v3)] → k16 v0 v1 v2 v3 h = some h' → W p l e (z_rm 0 0) s m args below meth c H locs 0 0 (MQ below (z_Q D dA B none h') args s 0 0 (fun q => B ≤ q)) (F0 m 16 ls [])) : ∀ n : Nat, ∀ (v0 : Nat) (v1 : Int32) (v2 : Int32) (v3 : Int32) (v4 : Int32) (v5 : Int32) (h : z_H) (H : Heap) (locs : List Loc) (ls : Array Slot), z_I D dA B h s.heap H locs → lv_has ls 6 [(0, .ref v0), (1, .int v1), (2, .int v2), (3, .int v3), (4, .int v4), (5, .int v5)] → f_Mod_exchanged_35 N k16 n v0 v1 v2 v3 v4 v5 h = some h' → W p l e (z_rm 0 0) s m args below meth c H locs 0 0 (MQ below (z_Q D dA B none h') args s 0 0 (fun q => B ≤ q)) (F0 m 35 ls []) := by
  have hx := z_hx X
  have hb := z_hb X
  intro n
  induction n with
  | zero => intro v0 v1 v2 v3 v4 v5 h H locs ls hI hl hf; rw [f_Mod_exchanged_35] at hf; cases hf
  | succ n ih =>
    intro v0 v1 v2 v3 v4 v5 h H locs ls hI hl hf
    rw [f_Mod_exchanged_35] at hf
    refine lv_iload hx hb d_Mod_exchanged_35 (lv_at hl 5 rfl) ?_
    refine lv_iload_n hx hb d_Mod_exchanged_37 rfl (lv_at hl 2 rfl) ?_
    refine lv_icmp_ge (tgt := 86) hx hb d_Mod_exchanged_38 (by decide) (fun c1 => ?_) (fun c1 => ?_)
    · rw [if_pos c1] at hf
      obtain ⟨x2, ex2, hf⟩ := z_bs hf
      refine lv_iinc (v := x2) (lv' := [(3, .int x2), (0, .ref v0), (1, .int v1), (2, .int v2), (4, .int v4), (5, .int v5)]) hx hb d_Mod_exchanged_86 hl (k := 3) rfl (by rw [← Option.some.inj ex2]; rfl) (by decide) rfl (fun ls hl => ?_)
      refine lv_goto (tgt := 16) hx hb d_Mod_exchanged_89 (by decide) ?_
      exact hk16 v0 v1 v2 x2 h _ _ _ hI (lv_sub hl [1, 2, 3, 0] rfl) hf
    · rw [if_neg c1] at hf
      refine lv_aload_n hx hb d_Mod_exchanged_41 rfl (lv_at hl 0 rfl) ?_
      obtain ⟨x3, ex3, hf⟩ := z_bs hf
      refine z_getF X hI (k := 33) (ci := 12) (gR_s ex3) i_Mod rfl (by decide) wf_Mod_96 d_Mod_exchanged_42 ?_
      refine lv_aload_n hx hb d_Mod_exchanged_45 rfl (lv_at hl 0 rfl) ?_
      obtain ⟨x4, ex4, hf⟩ := z_bs hf
      refine z_getF X hI (k := 15) (ci := 12) (gR_s ex4) i_Mod rfl (by decide) wf_Mod_41 d_Mod_exchanged_46 ?_
      refine lv_iload_n hx hb d_Mod_exchanged_49 rfl (lv_at hl 1 rfl) ?_
      obtain ⟨x5, ex5, hf⟩ := z_bs hf
      refine z_iald X hI ex5 d_Mod_exchanged_50 ?_
      refine lv_iload hx hb d_Mod_exchanged_51 (lv_at hl 5 rfl) ?_
      refine lv_iadd hx hb d_Mod_exchanged_53 ?_
      obtain ⟨x6, ex6, hf⟩ := z_bs hf
      refine z_iald X hI ex6 d_Mod_exchanged_54 ?_
      refine lv_iload hx hb d_Mod_exchanged_55 (lv_at hl 4 rfl) ?_
      refine lv_icmp_ne (tgt := 80) hx hb d_Mod_exchanged_57 (by decide) (fun c7 => ?_) (fun c7 => ?_)
      · rw [if_neg c7] at hf
        obtain ⟨x8, ex8, hf⟩ := z_bs hf
        refine lv_iinc (v := x8) (lv' := [(5, .int x8), (0, .ref v0), (1, .int v1), (2, .int v2), (3, .int v3), (4, .int v4)]) hx hb d_Mod_exchanged_80 hl (k := 5) rfl (by rw [← Option.some.inj ex8]; rfl) (by decide) rfl (fun ls hl => ?_)
        refine lv_goto (tgt := 35) hx hb d_Mod_exchanged_83 (by decide) ?_
        exact ih v0 v1 v2 v3 v4 x8 h _ _ _ hI (lv_sub hl [1, 2, 3, 4, 5, 0] rfl) hf
      · rw [if_pos c7] at hf
        refine lv_aload_n hx hb d_Mod_exchanged_60 rfl (lv_at hl 0 rfl) ?_
        obtain ⟨x9, ex9, hf⟩ := z_bs hf
        refine z_getF X hI (k := 58) (ci := 12) (gR_s ex9) i_Mod rfl (by decide) wf_Mod_130 d_Mod_exchanged_61 ?_
        refine lv_iload_n hx hb d_Mod_exchanged_64 rfl (lv_at hl 3 rfl) ?_
        refine lv_aload_n hx hb d_Mod_exchanged_65 rfl (lv_at hl 0 rfl) ?_
        obtain ⟨x10, ex10, hf⟩ := z_bs hf
        refine z_getF X hI (k := 33) (ci := 12) (gR_s ex10) i_Mod rfl (by decide) wf_Mod_96 d_Mod_exchanged_66 ?_
        refine lv_aload_n hx hb d_Mod_exchanged_69 rfl (lv_at hl 0 rfl) ?_
        obtain ⟨x11, ex11, hf⟩ := z_bs hf
        refine z_getF X hI (k := 17) (ci := 12) (gR_s ex11) i_Mod rfl (by decide) wf_Mod_47 d_Mod_exchanged_70 ?_
        refine lv_iload_n hx hb d_Mod_exchanged_73 rfl (lv_at hl 1 rfl) ?_
        obtain ⟨x12, ex12, hf⟩ := z_bs hf
        refine z_iald X hI ex12 d_Mod_exchanged_74 ?_
        refine lv_iload hx hb d_Mod_exchanged_75 (lv_at hl 5 rfl) ?_
        refine lv_iadd hx hb d_Mod_exchanged_77 ?_
        obtain ⟨x13, ex13, hf⟩ := z_bs hf
        refine z_iald X hI ex13 d_Mod_exchanged_78 ?_
        obtain ⟨h14, eh14, hf⟩ := z_bs hf
        refine z_iast X hI eh14 d_Mod_exchanged_79 (fun H locs hI => ?_)
        obtain ⟨x15, ex15, hf⟩ := z_bs hf
        refine lv_iinc (v := x15) (lv' := [(5, .int x15), (0, .ref v0), (1, .int v1), (2, .int v2), (3, .int v3), (4, .int v4)]) hx hb d_Mod_exchanged_80 hl (k := 5) rfl (by rw [← Option.some.inj ex15]; rfl) (by decide) rfl (fun ls hl => ?_)
        refine lv_goto (tgt := 35) hx hb d_Mod_exchanged_83 (by decide) ?_
        exact ih v0 v1 v2 v3 v4 x15 h14 _ _ _ hI (lv_sub hl [1, 2, 3, 4, 5, 0] rfl) hf
def f_Mod_exchanged_16 (N : Nat)  : Nat → Nat → Int32 → Int32 → Int32 → z_H → Option z_H
  | 0, _, _, _, _, _ => none
  | n + 1, v0, v1, v2, v3, h =>
    z_b (gI h v0 12 65) fun x1 =>
    if x1 ≤ v3 then
    (some h)
    else
    (z_b (gR h v0 12 58) fun x3 =>
    z_b (aI h x3 0 v3) fun x4 =>
    f_Mod_exchanged_35 N (f_Mod_exchanged_16 N  n) N v0 v1 v2 v3 x4 0 h)
set_option maxRecDepth 20000 in
set_option maxHeartbeats 2000000 in
theorem s_Mod_exchanged_16 (X : z_X p s m args meth c prog_14_method_58_code 6 none Ts "StreamForgeModel" D dA B) {N : Nat} {h' : z_H}   : ∀ n : Nat, ∀ (v0 : Nat) (v1 : Int32) (v2 : Int32) (v3 : Int32) (h : z_H) (H : Heap) (locs : List Loc) (ls : Array Slot), z_I D dA B h s.heap H locs → lv_has ls 6 [(0, .ref v0), (1, .int v1), (2, .int v2), (3, .int v3)] → f_Mod_exchanged_16 N  n v0 v1 v2 v3 h = some h' → W p l e (z_rm 0 0) s m args below meth c H locs 0 0 (MQ below (z_Q D dA B none h') args s 0 0 (fun q => B ≤ q)) (F0 m 16 ls []) := by
  have hx := z_hx X
  have hb := z_hb X
  intro n
  induction n with
  | zero => intro v0 v1 v2 v3 h H locs ls hI hl hf; rw [f_Mod_exchanged_16] at hf; cases hf
  | succ n ih =>
    intro v0 v1 v2 v3 h H locs ls hI hl hf
    rw [f_Mod_exchanged_16] at hf
    refine lv_iload_n hx hb d_Mod_exchanged_16 rfl (lv_at hl 3 rfl) ?_
    refine lv_aload_n hx hb d_Mod_exchanged_17 rfl (lv_at hl 0 rfl) ?_
    obtain ⟨x1, ex1, hf⟩ := z_bs hf
    refine z_getF X hI (k := 65) (ci := 12) (gI_s ex1) i_Mod rfl (by decide) wf_Mod_319 d_Mod_exchanged_18 ?_
    refine lv_icmp_ge (tgt := 92) hx hb d_Mod_exchanged_21 (by decide) (fun c2 => ?_) (fun c2 => ?_)
    · rw [if_pos c2] at hf
      cases hf
      exact z_vret X hI d_Mod_exchanged_92
    · rw [if_neg c2] at hf
      refine lv_aload_n hx hb d_Mod_exchanged_24 rfl (lv_at hl 0 rfl) ?_
      obtain ⟨x3, ex3, hf⟩ := z_bs hf
      refine z_getF X hI (k := 58) (ci := 12) (gR_s ex3) i_Mod rfl (by decide) wf_Mod_130 d_Mod_exchanged_25 ?_
      refine lv_iload_n hx hb d_Mod_exchanged_28 rfl (lv_at hl 3 rfl) ?_
      obtain ⟨x4, ex4, hf⟩ := z_bs hf
      refine z_iald X hI ex4 d_Mod_exchanged_29 ?_
      refine lv_istore (lv' := [(4, .int x4), (0, .ref v0), (1, .int v1), (2, .int v2), (3, .int v3)]) hx hb d_Mod_exchanged_30 hl (by decide) rfl (fun ls hl => ?_)
      refine lv_iconst (v := 0) hx hb d_Mod_exchanged_32 (by decide) ?_
      refine lv_istore (lv' := [(5, .int 0), (4, .int x4), (0, .ref v0), (1, .int v1), (2, .int v2), (3, .int v3)]) hx hb d_Mod_exchanged_33 hl (by decide) rfl (fun ls hl => ?_)
      exact s_Mod_exchanged_35 X ih N v0 v1 v2 v3 x4 0 h _ _ _ hI (lv_sub hl [2, 3, 4, 5, 1, 0] rfl) hf
def f_Mod_exchanged (N : Nat) (v0 : Nat) (v1 : Int32) (h : z_H) : Option z_H :=
  z_b (gR h v0 12 17) fun x1 =>
  z_b (aI h x1 0 v1) fun x2 =>
  z_b (gR h v0 12 15) fun x3 =>
  z_b (aI h x3 0 v1) fun x4 =>
  z_b (some (x2 - x4)) fun x5 =>
  f_Mod_exchanged_16 N N v0 v1 x5 0 h
set_option maxRecDepth 20000 in
set_option maxHeartbeats 2000000 in
theorem s_Mod_exchanged {l : Launch} {D : va_G} {dA : Nat → ClassId} {B N : Nat} {v0 : Nat} {v1 : Int32} {h h' : z_H} (hf : f_Mod_exchanged N v0 v1 h = some h') : z_Met l y_Mod_exchanged prog_14_method_58_code 6 none 0 0 D dA B [.ref v0, .int v1] h none h' := by
  refine z_of (by decide) (Nat.le_of_ble_eq_true rfl) (fun p e s m below meth c ls X hI hl => ?_)
  have hx := z_hx X
  have hb := z_hb X
  have hl : lv_has ls 6 [(0, .ref v0), (1, .int v1)] := hl
  unfold f_Mod_exchanged at hf
  obtain ⟨locs, hlo⟩ : ∃ z : List Loc, z = [] := ⟨_, rfl⟩
  rw [← hlo] at hI ⊢
  refine lv_aload_n hx hb d_Mod_exchanged_0 rfl (lv_at hl 0 rfl) ?_
  obtain ⟨x1, ex1, hf⟩ := z_bs hf
  refine z_getF X hI (k := 17) (ci := 12) (gR_s ex1) i_Mod rfl (by decide) wf_Mod_47 d_Mod_exchanged_1 ?_
  refine lv_iload_n hx hb d_Mod_exchanged_4 rfl (lv_at hl 1 rfl) ?_
  obtain ⟨x2, ex2, hf⟩ := z_bs hf
  refine z_iald X hI ex2 d_Mod_exchanged_5 ?_
  refine lv_aload_n hx hb d_Mod_exchanged_6 rfl (lv_at hl 0 rfl) ?_
  obtain ⟨x3, ex3, hf⟩ := z_bs hf
  refine z_getF X hI (k := 15) (ci := 12) (gR_s ex3) i_Mod rfl (by decide) wf_Mod_41 d_Mod_exchanged_7 ?_
  refine lv_iload_n hx hb d_Mod_exchanged_10 rfl (lv_at hl 1 rfl) ?_
  obtain ⟨x4, ex4, hf⟩ := z_bs hf
  refine z_iald X hI ex4 d_Mod_exchanged_11 ?_
  refine lv_isub hx hb d_Mod_exchanged_12 ?_
  obtain ⟨x5, ex5, hf⟩ := z_bs hf
  refine z_topi (Option.some.inj ex5) ?_
  refine lv_istore_n (lv' := [(2, .int x5), (0, .ref v0), (1, .int v1)]) hx hb d_Mod_exchanged_13 rfl hl (by decide) rfl (fun ls hl => ?_)
  refine lv_iconst (v := 0) hx hb d_Mod_exchanged_14 (by decide) ?_
  refine lv_istore_n (lv' := [(3, .int 0), (2, .int x5), (0, .ref v0), (1, .int v1)]) hx hb d_Mod_exchanged_15 rfl hl (by decide) rfl (fun ls hl => ?_)
  exact s_Mod_exchanged_16 X  N v0 v1 x5 0 h _ _ _ hI (lv_sub hl [2, 3, 1, 0] rfl) hf
def f_Mod_append_40 (N : Nat)  : Nat → Nat → Int32 → Int32 → z_H → Option (Int32 × z_H)
  | 0, _, _, _, _ => none
  | n + 1, v0, v1, v3, h =>
    z_b (gR h v0 12 16) fun x1 =>
    z_b (aI h x1 0 v1) fun x2 =>
    if x2 ≤ v3 then
    (z_b (gR h v0 12 61) fun x4 =>
    z_b (gI h v0 12 68) fun x5 =>
    z_b (sF h v0 12 68 (.int (x5 + 1))) fun h6 =>
    z_b (uI h6 x4 0 x5 10) fun h7 =>
    some (1, h7))
    else
    (z_b (gR h v0 12 61) fun x8 =>
    z_b (gI h v0 12 68) fun x9 =>
    z_b (sF h v0 12 68 (.int (x9 + 1))) fun h10 =>
    z_b (gR h10 v0 12 33) fun x11 =>
    z_b (aI h10 x11 0 v3) fun x12 =>
    z_b (uI h10 x8 0 x9 x12) fun h13 =>
    z_b (some (v3 + 1)) fun x14 =>
    (f_Mod_append_40 N  n) v0 v1 x14 h13)
set_option maxRecDepth 20000 in
set_option maxHeartbeats 2000000 in
theorem s_Mod_append_40 (X : z_X p s m args meth c prog_14_method_59_code 4 (some .boolean) Ts "StreamForgeModel" D dA B) {N : Nat} {r : Int32} {h' : z_H}   : ∀ n : Nat, ∀ (v0 : Nat) (v1 : Int32) (v3 : Int32) (h : z_H) (H : Heap) (locs : List Loc) (ls : Array Slot), z_I D dA B h s.heap H locs → lv_has ls 4 [(0, .ref v0), (1, .int v1), (3, .int v3)] → f_Mod_append_40 N  n v0 v1 v3 h = some (r, h') → W p l e (z_rm 1 20) s m args below meth c H locs 0 0 (MQ below (z_Q D dA B (some (.int r)) h') args s 0 0 (fun q => B ≤ q)) (F0 m 40 ls []) := by
  have hx := z_hx X
  have hb := z_hb X
  intro n
  induction n with
  | zero => intro v0 v1 v3 h H locs ls hI hl hf; rw [f_Mod_append_40] at hf; cases hf
  | succ n ih =>
    intro v0 v1 v3 h H locs ls hI hl hf
    rw [f_Mod_append_40] at hf
    refine lv_iload_n hx hb d_Mod_append_40 rfl (lv_at hl 2 rfl) ?_
    refine lv_aload_n hx hb d_Mod_append_41 rfl (lv_at hl 0 rfl) ?_
    obtain ⟨x1, ex1, hf⟩ := z_bs hf
    refine z_getF X hI (k := 16) (ci := 12) (gR_s ex1) i_Mod rfl (by decide) wf_Mod_44 d_Mod_append_42 ?_
    refine lv_iload_n hx hb d_Mod_append_45 rfl (lv_at hl 1 rfl) ?_
    obtain ⟨x2, ex2, hf⟩ := z_bs hf
    refine z_iald X hI ex2 d_Mod_append_46 ?_
    refine lv_icmp_ge (tgt := 78) hx hb d_Mod_append_47 (by decide) (fun c3 => ?_) (fun c3 => ?_)
    · rw [if_pos c3] at hf
      refine lv_aload_n hx hb d_Mod_append_78 rfl (lv_at hl 0 rfl) ?_
      obtain ⟨x4, ex4, hf⟩ := z_bs hf
      refine z_getF X hI (k := 61) (ci := 12) (gR_s ex4) i_Mod rfl (by decide) wf_Mod_139 d_Mod_append_79 ?_
      refine lv_aload_n hx hb d_Mod_append_82 rfl (lv_at hl 0 rfl) ?_
      refine lv_dup hx hb d_Mod_append_83 rfl ?_
      obtain ⟨x5, ex5, hf⟩ := z_bs hf
      refine z_getF X hI (k := 68) (ci := 12) (gI_s ex5) i_Mod rfl (by decide) wf_Mod_343 d_Mod_append_84 ?_
      refine lv_dup_x1 hx hb d_Mod_append_87 rfl rfl ?_
      refine lv_iconst (v := 1) hx hb d_Mod_append_88 (by decide) ?_
      refine lv_iadd hx hb d_Mod_append_89 ?_
      obtain ⟨h6, eh6, hf⟩ := z_bs hf
      refine z_putF X hI (k := 68) (ci := 12) (ty0 := t_Mod) eh6 i_Mod t_Mod_ok n_Mod rfl (by decide) wf_Mod_343 rfl rfl rfl d_Mod_append_90 (fun H locs hI => ?_)
      refine lv_bipush (v := 10) hx hb d_Mod_append_93 (by decide) ?_
      obtain ⟨h7, eh7, hf⟩ := z_bs hf
      refine z_iast X hI eh7 d_Mod_append_95 (fun H locs hI => ?_)
      refine lv_iconst (v := 1) hx hb d_Mod_append_96 (by decide) ?_
      cases hf
      exact z_zret X hI (Or.inr rfl) d_Mod_append_97
    · rw [if_neg c3] at hf
      refine lv_aload_n hx hb d_Mod_append_50 rfl (lv_at hl 0 rfl) ?_
      obtain ⟨x8, ex8, hf⟩ := z_bs hf
      refine z_getF X hI (k := 61) (ci := 12) (gR_s ex8) i_Mod rfl (by decide) wf_Mod_139 d_Mod_append_51 ?_
      refine lv_aload_n hx hb d_Mod_append_54 rfl (lv_at hl 0 rfl) ?_
      refine lv_dup hx hb d_Mod_append_55 rfl ?_
      obtain ⟨x9, ex9, hf⟩ := z_bs hf
      refine z_getF X hI (k := 68) (ci := 12) (gI_s ex9) i_Mod rfl (by decide) wf_Mod_343 d_Mod_append_56 ?_
      refine lv_dup_x1 hx hb d_Mod_append_59 rfl rfl ?_
      refine lv_iconst (v := 1) hx hb d_Mod_append_60 (by decide) ?_
      refine lv_iadd hx hb d_Mod_append_61 ?_
      obtain ⟨h10, eh10, hf⟩ := z_bs hf
      refine z_putF X hI (k := 68) (ci := 12) (ty0 := t_Mod) eh10 i_Mod t_Mod_ok n_Mod rfl (by decide) wf_Mod_343 rfl rfl rfl d_Mod_append_62 (fun H locs hI => ?_)
      refine lv_aload_n hx hb d_Mod_append_65 rfl (lv_at hl 0 rfl) ?_
      obtain ⟨x11, ex11, hf⟩ := z_bs hf
      refine z_getF X hI (k := 33) (ci := 12) (gR_s ex11) i_Mod rfl (by decide) wf_Mod_96 d_Mod_append_66 ?_
      refine lv_iload_n hx hb d_Mod_append_69 rfl (lv_at hl 2 rfl) ?_
      obtain ⟨x12, ex12, hf⟩ := z_bs hf
      refine z_iald X hI ex12 d_Mod_append_70 ?_
      obtain ⟨h13, eh13, hf⟩ := z_bs hf
      refine z_iast X hI eh13 d_Mod_append_71 (fun H locs hI => ?_)
      obtain ⟨x14, ex14, hf⟩ := z_bs hf
      refine lv_iinc (v := x14) (lv' := [(3, .int x14), (0, .ref v0), (1, .int v1)]) hx hb d_Mod_append_72 hl (k := 2) rfl (by rw [← Option.some.inj ex14]; rfl) (by decide) rfl (fun ls hl => ?_)
      refine lv_goto (tgt := 40) hx hb d_Mod_append_75 (by decide) ?_
      exact ih v0 v1 x14 h13 _ _ _ hI (lv_sub hl [1, 2, 0] rfl) hf
def f_Mod_append (N : Nat) (v0 : Nat) (v1 : Int32) (h : z_H) : Option (Int32 × z_H) :=
  z_b (gR h v0 12 16) fun x1 =>
  z_b (aI h x1 0 v1) fun x2 =>
  z_b (gR h v0 12 15) fun x3 =>
  z_b (aI h x3 0 v1) fun x4 =>
  z_b (some ((x2 - x4) + 1)) fun x5 =>
  z_b (gI h v0 12 68) fun x6 =>
  if (x6 + x5) ≤ 200 then
  (z_b (gR h v0 12 15) fun x8 =>
  z_b (aI h x8 0 v1) fun x9 =>
  f_Mod_append_40 N N v0 v1 x9 h)
  else
  (z_b (gO h v0 12) fun u10 =>
  z_b (f_Mod_full N v0 h) fun r11 =>
  z_b (zB (r11.1)) fun x12 =>
  some (x12, r11.2))
set_option maxRecDepth 20000 in
set_option maxHeartbeats 2000000 in
theorem s_Mod_append {l : Launch} {D : va_G} {dA : Nat → ClassId} {B N : Nat} {v0 : Nat} {v1 : Int32} {h h' : z_H} {r : Int32} (hf : f_Mod_append N v0 v1 h = some (r, h')) : z_Met l y_Mod_append prog_14_method_59_code 4 (some .boolean) 1 20 D dA B [.ref v0, .int v1] h (some (.int r)) h' := by
  refine z_of (by decide) (Nat.le_of_ble_eq_true rfl) (fun p e s m below meth c ls X hI hl => ?_)
  have hx := z_hx X
  have hb := z_hb X
  have hl : lv_has ls 4 [(0, .ref v0), (1, .int v1)] := hl
  unfold f_Mod_append at hf
  obtain ⟨locs, hlo⟩ : ∃ z : List Loc, z = [] := ⟨_, rfl⟩
  rw [← hlo] at hI ⊢
  refine lv_aload_n hx hb d_Mod_append_0 rfl (lv_at hl 0 rfl) ?_
  obtain ⟨x1, ex1, hf⟩ := z_bs hf
  refine z_getF X hI (k := 16) (ci := 12) (gR_s ex1) i_Mod rfl (by decide) wf_Mod_44 d_Mod_append_1 ?_
  refine lv_iload_n hx hb d_Mod_append_4 rfl (lv_at hl 1 rfl) ?_
  obtain ⟨x2, ex2, hf⟩ := z_bs hf
  refine z_iald X hI ex2 d_Mod_append_5 ?_
  refine lv_aload_n hx hb d_Mod_append_6 rfl (lv_at hl 0 rfl) ?_
  obtain ⟨x3, ex3, hf⟩ := z_bs hf
  refine z_getF X hI (k := 15) (ci := 12) (gR_s ex3) i_Mod rfl (by decide) wf_Mod_41 d_Mod_append_7 ?_
  refine lv_iload_n hx hb d_Mod_append_10 rfl (lv_at hl 1 rfl) ?_
  obtain ⟨x4, ex4, hf⟩ := z_bs hf
  refine z_iald X hI ex4 d_Mod_append_11 ?_
  refine lv_isub hx hb d_Mod_append_12 ?_
  refine lv_iconst (v := 1) hx hb d_Mod_append_13 (by decide) ?_
  refine lv_iadd hx hb d_Mod_append_14 ?_
  obtain ⟨x5, ex5, hf⟩ := z_bs hf
  refine z_topi (Option.some.inj ex5) ?_
  refine lv_istore_n (lv' := [(2, .int x5), (0, .ref v0), (1, .int v1)]) hx hb d_Mod_append_15 rfl hl (by decide) rfl (fun ls hl => ?_)
  refine lv_aload_n hx hb d_Mod_append_16 rfl (lv_at hl 1 rfl) ?_
  obtain ⟨x6, ex6, hf⟩ := z_bs hf
  refine z_getF X hI (k := 68) (ci := 12) (gI_s ex6) i_Mod rfl (by decide) wf_Mod_343 d_Mod_append_17 ?_
  refine lv_iload_n hx hb d_Mod_append_20 rfl (lv_at hl 0 rfl) ?_
  refine lv_iadd hx hb d_Mod_append_21 ?_
  refine lv_sipush (v := 200) hx hb d_Mod_append_22 (by decide) ?_
  refine lv_icmp_le (tgt := 33) hx hb d_Mod_append_25 (by decide) (fun c7 => ?_) (fun c7 => ?_)
  · rw [if_pos c7] at hf
    refine lv_aload_n hx hb d_Mod_append_33 rfl (lv_at hl 1 rfl) ?_
    obtain ⟨x8, ex8, hf⟩ := z_bs hf
    refine z_getF X hI (k := 15) (ci := 12) (gR_s ex8) i_Mod rfl (by decide) wf_Mod_41 d_Mod_append_34 ?_
    refine lv_iload_n hx hb d_Mod_append_37 rfl (lv_at hl 2 rfl) ?_
    obtain ⟨x9, ex9, hf⟩ := z_bs hf
    refine z_iald X hI ex9 d_Mod_append_38 ?_
    refine lv_istore_n (lv' := [(3, .int x9), (2, .int x5), (0, .ref v0), (1, .int v1)]) hx hb d_Mod_append_39 rfl hl (by decide) rfl (fun ls hl => ?_)
    exact s_Mod_append_40 X  N v0 v1 x9 h _ _ _ hI (lv_sub hl [2, 3, 0] rfl) hf
  · rw [if_neg c7] at hf
    refine lv_aload_n hx hb d_Mod_append_28 rfl (lv_at hl 1 rfl) ?_
    obtain ⟨u10, eu10, hf⟩ := z_bs hf
    obtain ⟨r11, er11, hf⟩ := z_bs hf
    refine z_callV (As := []) (rest := []) (r := (some (.int r11.1))) (h' := r11.2) X hI eu10 (s_Mod_full er11) rfl rfl wm_Mod_337 yi_Mod_full rfl hl.1 rfl (Nat.le_of_ble_eq_true rfl) (by decide) (by decide) d_Mod_append_29 (fun H locs hI => ?_)
    refine W.eq (g2 := F0 m 32 ls [.int (r11.1)]) rfl ?_
    obtain ⟨x12, ex12, hf⟩ := z_bs hf
    refine z_topi (zB_s ex12).1 ?_
    cases hf
    exact z_zret X hI (zB_s2 ex12) d_Mod_append_32
def f_Mod_holds_8 (N : Nat)  : Nat → Nat → Int32 → z_H → Option (Int32 × z_H)
  | 0, _, _, _ => none
  | n + 1, v0, v2, h =>
    z_b (gI h v0 12 65) fun x1 =>
    if x1 ≤ v2 then
    (z_b (gI h v0 12 65) fun x3 =>
    z_b (sF h v0 12 66 (.int x3)) fun h4 =>
    some (1, h4))
    else
    (z_b (gR h v0 12 59) fun x5 =>
    z_b (gR h v0 12 58) fun x6 =>
    z_b (aI h x6 0 v2) fun x7 =>
    z_b (uI h x5 0 v2 x7) fun h8 =>
    z_b (some (v2 + 1)) fun x9 =>
    (f_Mod_holds_8 N  n) v0 x9 h8)
set_option maxRecDepth 20000 in
set_option maxHeartbeats 2000000 in
theorem s_Mod_holds_8 (X : z_X p s m args meth c prog_14_method_60_code 4 (some .boolean) Ts "StreamForgeModel" D dA B) {N : Nat} {r : Int32} {h' : z_H}   : ∀ n : Nat, ∀ (v0 : Nat) (v2 : Int32) (h : z_H) (H : Heap) (locs : List Loc) (ls : Array Slot), z_I D dA B h s.heap H locs → lv_has ls 4 [(0, .ref v0), (2, .int v2)] → f_Mod_holds_8 N  n v0 v2 h = some (r, h') → W p l e (z_rm 1 20) s m args below meth c H locs 0 0 (MQ below (z_Q D dA B (some (.int r)) h') args s 0 0 (fun q => B ≤ q)) (F0 m 8 ls []) := by
  have hx := z_hx X
  have hb := z_hb X
  intro n
  induction n with
  | zero => intro v0 v2 h H locs ls hI hl hf; rw [f_Mod_holds_8] at hf; cases hf
  | succ n ih =>
    intro v0 v2 h H locs ls hI hl hf
    rw [f_Mod_holds_8] at hf
    refine lv_iload_n hx hb d_Mod_holds_8 rfl (lv_at hl 1 rfl) ?_
    refine lv_aload_n hx hb d_Mod_holds_9 rfl (lv_at hl 0 rfl) ?_
    obtain ⟨x1, ex1, hf⟩ := z_bs hf
    refine z_getF X hI (k := 65) (ci := 12) (gI_s ex1) i_Mod rfl (by decide) wf_Mod_319 d_Mod_holds_10 ?_
    refine lv_icmp_ge (tgt := 34) hx hb d_Mod_holds_13 (by decide) (fun c2 => ?_) (fun c2 => ?_)
    · rw [if_pos c2] at hf
      refine lv_aload_n hx hb d_Mod_holds_34 rfl (lv_at hl 0 rfl) ?_
      refine lv_aload_n hx hb d_Mod_holds_35 rfl (lv_at hl 0 rfl) ?_
      obtain ⟨x3, ex3, hf⟩ := z_bs hf
      refine z_getF X hI (k := 65) (ci := 12) (gI_s ex3) i_Mod rfl (by decide) wf_Mod_319 d_Mod_holds_36 ?_
      obtain ⟨h4, eh4, hf⟩ := z_bs hf
      refine z_putF X hI (k := 66) (ci := 12) (ty0 := t_Mod) eh4 i_Mod t_Mod_ok n_Mod rfl (by decide) wf_Mod_378 rfl rfl rfl d_Mod_holds_39 (fun H locs hI => ?_)
      refine lv_goto (tgt := 309) hx hb d_Mod_holds_42 (by decide) ?_
      refine lv_iconst (v := 1) hx hb d_Mod_holds_309 (by decide) ?_
      cases hf
      exact z_zret X hI (Or.inr rfl) d_Mod_holds_310
    · rw [if_neg c2] at hf
      refine lv_aload_n hx hb d_Mod_holds_16 rfl (lv_at hl 0 rfl) ?_
      obtain ⟨x5, ex5, hf⟩ := z_bs hf
      refine z_getF X hI (k := 59) (ci := 12) (gR_s ex5) i_Mod rfl (by decide) wf_Mod_133 d_Mod_holds_17 ?_
      refine lv_iload_n hx hb d_Mod_holds_20 rfl (lv_at hl 1 rfl) ?_
      refine lv_aload_n hx hb d_Mod_holds_21 rfl (lv_at hl 0 rfl) ?_
      obtain ⟨x6, ex6, hf⟩ := z_bs hf
      refine z_getF X hI (k := 58) (ci := 12) (gR_s ex6) i_Mod rfl (by decide) wf_Mod_130 d_Mod_holds_22 ?_
      refine lv_iload_n hx hb d_Mod_holds_25 rfl (lv_at hl 1 rfl) ?_
      obtain ⟨x7, ex7, hf⟩ := z_bs hf
      refine z_iald X hI ex7 d_Mod_holds_26 ?_
      obtain ⟨h8, eh8, hf⟩ := z_bs hf
      refine z_iast X hI eh8 d_Mod_holds_27 (fun H locs hI => ?_)
      obtain ⟨x9, ex9, hf⟩ := z_bs hf
      refine lv_iinc (v := x9) (lv' := [(2, .int x9), (0, .ref v0)]) hx hb d_Mod_holds_28 hl (k := 1) rfl (by rw [← Option.some.inj ex9]; rfl) (by decide) rfl (fun ls hl => ?_)
      refine lv_goto (tgt := 8) hx hb d_Mod_holds_31 (by decide) ?_
      exact ih v0 x9 h8 _ _ _ hI (lv_sub hl [1, 0] rfl) hf
def f_Mod_holds_53 (N : Nat)  : Nat → Nat → Int32 → z_H → Option (Int32 × z_H)
  | 0, _, _, _ => none
  | n + 1, v0, v2, h =>
    z_b (gI h v0 12 66) fun x1 =>
    if x1 ≤ v2 then
    (z_b (gI h v0 12 66) fun x3 =>
    z_b (sF h v0 12 65 (.int x3)) fun h4 =>
    some (1, h4))
    else
    (z_b (gR h v0 12 58) fun x5 =>
    z_b (gR h v0 12 59) fun x6 =>
    z_b (aI h x6 0 v2) fun x7 =>
    z_b (uI h x5 0 v2 x7) fun h8 =>
    z_b (some (v2 + 1)) fun x9 =>
    (f_Mod_holds_53 N  n) v0 x9 h8)
set_option maxRecDepth 20000 in
set_option maxHeartbeats 2000000 in
theorem s_Mod_holds_53 (X : z_X p s m args meth c prog_14_method_60_code 4 (some .boolean) Ts "StreamForgeModel" D dA B) {N : Nat} {r : Int32} {h' : z_H}   : ∀ n : Nat, ∀ (v0 : Nat) (v2 : Int32) (h : z_H) (H : Heap) (locs : List Loc) (ls : Array Slot), z_I D dA B h s.heap H locs → lv_has ls 4 [(0, .ref v0), (2, .int v2)] → f_Mod_holds_53 N  n v0 v2 h = some (r, h') → W p l e (z_rm 1 20) s m args below meth c H locs 0 0 (MQ below (z_Q D dA B (some (.int r)) h') args s 0 0 (fun q => B ≤ q)) (F0 m 53 ls []) := by
  have hx := z_hx X
  have hb := z_hb X
  intro n
  induction n with
  | zero => intro v0 v2 h H locs ls hI hl hf; rw [f_Mod_holds_53] at hf; cases hf
  | succ n ih =>
    intro v0 v2 h H locs ls hI hl hf
    rw [f_Mod_holds_53] at hf
    refine lv_iload_n hx hb d_Mod_holds_53 rfl (lv_at hl 1 rfl) ?_
    refine lv_aload_n hx hb d_Mod_holds_54 rfl (lv_at hl 0 rfl) ?_
    obtain ⟨x1, ex1, hf⟩ := z_bs hf
    refine z_getF X hI (k := 66) (ci := 12) (gI_s ex1) i_Mod rfl (by decide) wf_Mod_378 d_Mod_holds_55 ?_
    refine lv_icmp_ge (tgt := 79) hx hb d_Mod_holds_58 (by decide) (fun c2 => ?_) (fun c2 => ?_)
    · rw [if_pos c2] at hf
      refine lv_aload_n hx hb d_Mod_holds_79 rfl (lv_at hl 0 rfl) ?_
      refine lv_aload_n hx hb d_Mod_holds_80 rfl (lv_at hl 0 rfl) ?_
      obtain ⟨x3, ex3, hf⟩ := z_bs hf
      refine z_getF X hI (k := 66) (ci := 12) (gI_s ex3) i_Mod rfl (by decide) wf_Mod_378 d_Mod_holds_81 ?_
      obtain ⟨h4, eh4, hf⟩ := z_bs hf
      refine z_putF X hI (k := 65) (ci := 12) (ty0 := t_Mod) eh4 i_Mod t_Mod_ok n_Mod rfl (by decide) wf_Mod_319 rfl rfl rfl d_Mod_holds_84 (fun H locs hI => ?_)
      refine lv_goto (tgt := 309) hx hb d_Mod_holds_87 (by decide) ?_
      refine lv_iconst (v := 1) hx hb d_Mod_holds_309 (by decide) ?_
      cases hf
      exact z_zret X hI (Or.inr rfl) d_Mod_holds_310
    · rw [if_neg c2] at hf
      refine lv_aload_n hx hb d_Mod_holds_61 rfl (lv_at hl 0 rfl) ?_
      obtain ⟨x5, ex5, hf⟩ := z_bs hf
      refine z_getF X hI (k := 58) (ci := 12) (gR_s ex5) i_Mod rfl (by decide) wf_Mod_130 d_Mod_holds_62 ?_
      refine lv_iload_n hx hb d_Mod_holds_65 rfl (lv_at hl 1 rfl) ?_
      refine lv_aload_n hx hb d_Mod_holds_66 rfl (lv_at hl 0 rfl) ?_
      obtain ⟨x6, ex6, hf⟩ := z_bs hf
      refine z_getF X hI (k := 59) (ci := 12) (gR_s ex6) i_Mod rfl (by decide) wf_Mod_133 d_Mod_holds_67 ?_
      refine lv_iload_n hx hb d_Mod_holds_70 rfl (lv_at hl 1 rfl) ?_
      obtain ⟨x7, ex7, hf⟩ := z_bs hf
      refine z_iald X hI ex7 d_Mod_holds_71 ?_
      obtain ⟨h8, eh8, hf⟩ := z_bs hf
      refine z_iast X hI eh8 d_Mod_holds_72 (fun H locs hI => ?_)
      obtain ⟨x9, ex9, hf⟩ := z_bs hf
      refine lv_iinc (v := x9) (lv' := [(2, .int x9), (0, .ref v0)]) hx hb d_Mod_holds_73 hl (k := 1) rfl (by rw [← Option.some.inj ex9]; rfl) (by decide) rfl (fun ls hl => ?_)
      refine lv_goto (tgt := 53) hx hb d_Mod_holds_76 (by decide) ?_
      exact ih v0 x9 h8 _ _ _ hI (lv_sub hl [1, 0] rfl) hf
def f_Mod_holds_98 (N : Nat)  : Nat → Nat → Int32 → z_H → Option (Int32 × z_H)
  | 0, _, _, _ => none
  | n + 1, v0, v2, h =>
    if 64 ≤ v2 then
    (z_b (gI h v0 12 65) fun x2 =>
    z_b (gI h v0 12 66) fun x3 =>
    z_b (sF h v0 12 65 (.int x3)) fun h4 =>
    z_b (sF h4 v0 12 66 (.int x2)) fun h5 =>
    some (1, h5))
    else
    (z_b (gR h v0 12 58) fun x6 =>
    z_b (aI h x6 0 v2) fun x7 =>
    z_b (gR h v0 12 58) fun x8 =>
    z_b (gR h v0 12 59) fun x9 =>
    z_b (aI h x9 0 v2) fun x10 =>
    z_b (uI h x8 0 v2 x10) fun h11 =>
    z_b (gR h11 v0 12 59) fun x12 =>
    z_b (uI h11 x12 0 v2 x7) fun h13 =>
    z_b (some (v2 + 1)) fun x14 =>
    (f_Mod_holds_98 N  n) v0 x14 h13)
set_option maxRecDepth 20000 in
set_option maxHeartbeats 2000000 in
theorem s_Mod_holds_98 (X : z_X p s m args meth c prog_14_method_60_code 4 (some .boolean) Ts "StreamForgeModel" D dA B) {N : Nat} {r : Int32} {h' : z_H}   : ∀ n : Nat, ∀ (v0 : Nat) (v2 : Int32) (h : z_H) (H : Heap) (locs : List Loc) (ls : Array Slot), z_I D dA B h s.heap H locs → lv_has ls 4 [(0, .ref v0), (2, .int v2)] → f_Mod_holds_98 N  n v0 v2 h = some (r, h') → W p l e (z_rm 1 20) s m args below meth c H locs 0 0 (MQ below (z_Q D dA B (some (.int r)) h') args s 0 0 (fun q => B ≤ q)) (F0 m 98 ls []) := by
  have hx := z_hx X
  have hb := z_hb X
  intro n
  induction n with
  | zero => intro v0 v2 h H locs ls hI hl hf; rw [f_Mod_holds_98] at hf; cases hf
  | succ n ih =>
    intro v0 v2 h H locs ls hI hl hf
    rw [f_Mod_holds_98] at hf
    refine lv_iload_n hx hb d_Mod_holds_98 rfl (lv_at hl 1 rfl) ?_
    refine lv_bipush (v := 64) hx hb d_Mod_holds_99 (by decide) ?_
    refine lv_icmp_ge (tgt := 136) hx hb d_Mod_holds_101 (by decide) (fun c1 => ?_) (fun c1 => ?_)
    · rw [if_pos c1] at hf
      refine lv_aload_n hx hb d_Mod_holds_136 rfl (lv_at hl 0 rfl) ?_
      obtain ⟨x2, ex2, hf⟩ := z_bs hf
      refine z_getF X hI (k := 65) (ci := 12) (gI_s ex2) i_Mod rfl (by decide) wf_Mod_319 d_Mod_holds_137 ?_
      refine lv_istore_n (lv' := [(2, .int x2), (0, .ref v0)]) hx hb d_Mod_holds_140 rfl hl (by decide) rfl (fun ls hl => ?_)
      refine lv_aload_n hx hb d_Mod_holds_141 rfl (lv_at hl 1 rfl) ?_
      refine lv_aload_n hx hb d_Mod_holds_142 rfl (lv_at hl 1 rfl) ?_
      obtain ⟨x3, ex3, hf⟩ := z_bs hf
      refine z_getF X hI (k := 66) (ci := 12) (gI_s ex3) i_Mod rfl (by decide) wf_Mod_378 d_Mod_holds_143 ?_
      obtain ⟨h4, eh4, hf⟩ := z_bs hf
      refine z_putF X hI (k := 65) (ci := 12) (ty0 := t_Mod) eh4 i_Mod t_Mod_ok n_Mod rfl (by decide) wf_Mod_319 rfl rfl rfl d_Mod_holds_146 (fun H locs hI => ?_)
      refine lv_aload_n hx hb d_Mod_holds_149 rfl (lv_at hl 1 rfl) ?_
      refine lv_iload_n hx hb d_Mod_holds_150 rfl (lv_at hl 0 rfl) ?_
      obtain ⟨h5, eh5, hf⟩ := z_bs hf
      refine z_putF X hI (k := 66) (ci := 12) (ty0 := t_Mod) eh5 i_Mod t_Mod_ok n_Mod rfl (by decide) wf_Mod_378 rfl rfl rfl d_Mod_holds_151 (fun H locs hI => ?_)
      refine lv_goto (tgt := 309) hx hb d_Mod_holds_154 (by decide) ?_
      refine lv_iconst (v := 1) hx hb d_Mod_holds_309 (by decide) ?_
      cases hf
      exact z_zret X hI (Or.inr rfl) d_Mod_holds_310
    · rw [if_neg c1] at hf
      refine lv_aload_n hx hb d_Mod_holds_104 rfl (lv_at hl 0 rfl) ?_
      obtain ⟨x6, ex6, hf⟩ := z_bs hf
      refine z_getF X hI (k := 58) (ci := 12) (gR_s ex6) i_Mod rfl (by decide) wf_Mod_130 d_Mod_holds_105 ?_
      refine lv_iload_n hx hb d_Mod_holds_108 rfl (lv_at hl 1 rfl) ?_
      obtain ⟨x7, ex7, hf⟩ := z_bs hf
      refine z_iald X hI ex7 d_Mod_holds_109 ?_
      refine lv_istore_n (lv' := [(3, .int x7), (0, .ref v0), (2, .int v2)]) hx hb d_Mod_holds_110 rfl hl (by decide) rfl (fun ls hl => ?_)
      refine lv_aload_n hx hb d_Mod_holds_111 rfl (lv_at hl 1 rfl) ?_
      obtain ⟨x8, ex8, hf⟩ := z_bs hf
      refine z_getF X hI (k := 58) (ci := 12) (gR_s ex8) i_Mod rfl (by decide) wf_Mod_130 d_Mod_holds_112 ?_
      refine lv_iload_n hx hb d_Mod_holds_115 rfl (lv_at hl 2 rfl) ?_
      refine lv_aload_n hx hb d_Mod_holds_116 rfl (lv_at hl 1 rfl) ?_
      obtain ⟨x9, ex9, hf⟩ := z_bs hf
      refine z_getF X hI (k := 59) (ci := 12) (gR_s ex9) i_Mod rfl (by decide) wf_Mod_133 d_Mod_holds_117 ?_
      refine lv_iload_n hx hb d_Mod_holds_120 rfl (lv_at hl 2 rfl) ?_
      obtain ⟨x10, ex10, hf⟩ := z_bs hf
      refine z_iald X hI ex10 d_Mod_holds_121 ?_
      obtain ⟨h11, eh11, hf⟩ := z_bs hf
      refine z_iast X hI eh11 d_Mod_holds_122 (fun H locs hI => ?_)
      refine lv_aload_n hx hb d_Mod_holds_123 rfl (lv_at hl 1 rfl) ?_
      obtain ⟨x12, ex12, hf⟩ := z_bs hf
      refine z_getF X hI (k := 59) (ci := 12) (gR_s ex12) i_Mod rfl (by decide) wf_Mod_133 d_Mod_holds_124 ?_
      refine lv_iload_n hx hb d_Mod_holds_127 rfl (lv_at hl 2 rfl) ?_
      refine lv_iload_n hx hb d_Mod_holds_128 rfl (lv_at hl 0 rfl) ?_
      obtain ⟨h13, eh13, hf⟩ := z_bs hf
      refine z_iast X hI eh13 d_Mod_holds_129 (fun H locs hI => ?_)
      obtain ⟨x14, ex14, hf⟩ := z_bs hf
      refine lv_iinc (v := x14) (lv' := [(2, .int x14), (3, .int x7), (0, .ref v0)]) hx hb d_Mod_holds_130 hl (k := 2) rfl (by rw [← Option.some.inj ex14]; rfl) (by decide) rfl (fun ls hl => ?_)
      refine lv_goto (tgt := 98) hx hb d_Mod_holds_133 (by decide) ?_
      exact ih v0 x14 h13 _ _ _ hI (lv_sub hl [2, 0] rfl) hf
def f_Mod_holds_197 (N : Nat)  : Nat → Nat → Int32 → z_H → Option (Int32 × z_H)
  | 0, _, _, _ => none
  | n + 1, v0, v2, h =>
    z_b (gI h v0 12 65) fun x1 =>
    if x1 ≤ v2 then
    (z_b (gI h v0 12 66) fun x3 =>
    z_b (gI h v0 12 65) fun x4 =>
    z_b (sF h v0 12 66 (.int (x3 + (x4 + 1)))) fun h5 =>
    some (1, h5))
    else
    (z_b (gR h v0 12 59) fun x6 =>
    z_b (gI h v0 12 66) fun x7 =>
    z_b (gR h v0 12 58) fun x8 =>
    z_b (aI h x8 0 v2) fun x9 =>
    z_b (uI h x6 0 ((x7 + 1) + v2) x9) fun h10 =>
    z_b (some (v2 + 1)) fun x11 =>
    (f_Mod_holds_197 N  n) v0 x11 h10)
set_option maxRecDepth 20000 in
set_option maxHeartbeats 2000000 in
theorem s_Mod_holds_197 (X : z_X p s m args meth c prog_14_method_60_code 4 (some .boolean) Ts "StreamForgeModel" D dA B) {N : Nat} {r : Int32} {h' : z_H}   : ∀ n : Nat, ∀ (v0 : Nat) (v2 : Int32) (h : z_H) (H : Heap) (locs : List Loc) (ls : Array Slot), z_I D dA B h s.heap H locs → lv_has ls 4 [(0, .ref v0), (2, .int v2)] → f_Mod_holds_197 N  n v0 v2 h = some (r, h') → W p l e (z_rm 1 20) s m args below meth c H locs 0 0 (MQ below (z_Q D dA B (some (.int r)) h') args s 0 0 (fun q => B ≤ q)) (F0 m 197 ls []) := by
  have hx := z_hx X
  have hb := z_hb X
  intro n
  induction n with
  | zero => intro v0 v2 h H locs ls hI hl hf; rw [f_Mod_holds_197] at hf; cases hf
  | succ n ih =>
    intro v0 v2 h H locs ls hI hl hf
    rw [f_Mod_holds_197] at hf
    refine lv_iload_n hx hb d_Mod_holds_197 rfl (lv_at hl 1 rfl) ?_
    refine lv_aload_n hx hb d_Mod_holds_198 rfl (lv_at hl 0 rfl) ?_
    obtain ⟨x1, ex1, hf⟩ := z_bs hf
    refine z_getF X hI (k := 65) (ci := 12) (gI_s ex1) i_Mod rfl (by decide) wf_Mod_319 d_Mod_holds_199 ?_
    refine lv_icmp_ge (tgt := 230) hx hb d_Mod_holds_202 (by decide) (fun c2 => ?_) (fun c2 => ?_)
    · rw [if_pos c2] at hf
      refine lv_aload_n hx hb d_Mod_holds_230 rfl (lv_at hl 0 rfl) ?_
      refine lv_dup hx hb d_Mod_holds_231 rfl ?_
      obtain ⟨x3, ex3, hf⟩ := z_bs hf
      refine z_getF X hI (k := 66) (ci := 12) (gI_s ex3) i_Mod rfl (by decide) wf_Mod_378 d_Mod_holds_232 ?_
      refine lv_aload_n hx hb d_Mod_holds_235 rfl (lv_at hl 0 rfl) ?_
      obtain ⟨x4, ex4, hf⟩ := z_bs hf
      refine z_getF X hI (k := 65) (ci := 12) (gI_s ex4) i_Mod rfl (by decide) wf_Mod_319 d_Mod_holds_236 ?_
      refine lv_iconst (v := 1) hx hb d_Mod_holds_239 (by decide) ?_
      refine lv_iadd hx hb d_Mod_holds_240 ?_
      refine lv_iadd hx hb d_Mod_holds_241 ?_
      obtain ⟨h5, eh5, hf⟩ := z_bs hf
      refine z_putF X hI (k := 66) (ci := 12) (ty0 := t_Mod) eh5 i_Mod t_Mod_ok n_Mod rfl (by decide) wf_Mod_378 rfl rfl rfl d_Mod_holds_242 (fun H locs hI => ?_)
      refine lv_goto (tgt := 309) hx hb d_Mod_holds_245 (by decide) ?_
      refine lv_iconst (v := 1) hx hb d_Mod_holds_309 (by decide) ?_
      cases hf
      exact z_zret X hI (Or.inr rfl) d_Mod_holds_310
    · rw [if_neg c2] at hf
      refine lv_aload_n hx hb d_Mod_holds_205 rfl (lv_at hl 0 rfl) ?_
      obtain ⟨x6, ex6, hf⟩ := z_bs hf
      refine z_getF X hI (k := 59) (ci := 12) (gR_s ex6) i_Mod rfl (by decide) wf_Mod_133 d_Mod_holds_206 ?_
      refine lv_aload_n hx hb d_Mod_holds_209 rfl (lv_at hl 0 rfl) ?_
      obtain ⟨x7, ex7, hf⟩ := z_bs hf
      refine z_getF X hI (k := 66) (ci := 12) (gI_s ex7) i_Mod rfl (by decide) wf_Mod_378 d_Mod_holds_210 ?_
      refine lv_iconst (v := 1) hx hb d_Mod_holds_213 (by decide) ?_
      refine lv_iadd hx hb d_Mod_holds_214 ?_
      refine lv_iload_n hx hb d_Mod_holds_215 rfl (lv_at hl 1 rfl) ?_
      refine lv_iadd hx hb d_Mod_holds_216 ?_
      refine lv_aload_n hx hb d_Mod_holds_217 rfl (lv_at hl 0 rfl) ?_
      obtain ⟨x8, ex8, hf⟩ := z_bs hf
      refine z_getF X hI (k := 58) (ci := 12) (gR_s ex8) i_Mod rfl (by decide) wf_Mod_130 d_Mod_holds_218 ?_
      refine lv_iload_n hx hb d_Mod_holds_221 rfl (lv_at hl 1 rfl) ?_
      obtain ⟨x9, ex9, hf⟩ := z_bs hf
      refine z_iald X hI ex9 d_Mod_holds_222 ?_
      obtain ⟨h10, eh10, hf⟩ := z_bs hf
      refine z_iast X hI eh10 d_Mod_holds_223 (fun H locs hI => ?_)
      obtain ⟨x11, ex11, hf⟩ := z_bs hf
      refine lv_iinc (v := x11) (lv' := [(2, .int x11), (0, .ref v0)]) hx hb d_Mod_holds_224 hl (k := 1) rfl (by rw [← Option.some.inj ex11]; rfl) (by decide) rfl (fun ls hl => ?_)
      refine lv_goto (tgt := 197) hx hb d_Mod_holds_227 (by decide) ?_
      exact ih v0 x11 h10 _ _ _ hI (lv_sub hl [1, 0] rfl) hf
def f_Mod_holds_261 (N : Nat)  : Nat → Nat → Int32 → z_H → Option (Int32 × z_H)
  | 0, _, _, _ => none
  | n + 1, v0, v2, h =>
    z_b (gI h v0 12 66) fun x1 =>
    if x1 ≤ v2 then
    (z_b (gI h v0 12 65) fun x3 =>
    z_b (gI h v0 12 66) fun x4 =>
    z_b (sF h v0 12 65 (.int (x3 + (x4 + 1)))) fun h5 =>
    some (1, h5))
    else
    (z_b (gR h v0 12 58) fun x6 =>
    z_b (gI h v0 12 65) fun x7 =>
    z_b (gR h v0 12 59) fun x8 =>
    z_b (aI h x8 0 v2) fun x9 =>
    z_b (uI h x6 0 ((x7 + 1) + v2) x9) fun h10 =>
    z_b (some (v2 + 1)) fun x11 =>
    (f_Mod_holds_261 N  n) v0 x11 h10)
set_option maxRecDepth 20000 in
set_option maxHeartbeats 2000000 in
theorem s_Mod_holds_261 (X : z_X p s m args meth c prog_14_method_60_code 4 (some .boolean) Ts "StreamForgeModel" D dA B) {N : Nat} {r : Int32} {h' : z_H}   : ∀ n : Nat, ∀ (v0 : Nat) (v2 : Int32) (h : z_H) (H : Heap) (locs : List Loc) (ls : Array Slot), z_I D dA B h s.heap H locs → lv_has ls 4 [(0, .ref v0), (2, .int v2)] → f_Mod_holds_261 N  n v0 v2 h = some (r, h') → W p l e (z_rm 1 20) s m args below meth c H locs 0 0 (MQ below (z_Q D dA B (some (.int r)) h') args s 0 0 (fun q => B ≤ q)) (F0 m 261 ls []) := by
  have hx := z_hx X
  have hb := z_hb X
  intro n
  induction n with
  | zero => intro v0 v2 h H locs ls hI hl hf; rw [f_Mod_holds_261] at hf; cases hf
  | succ n ih =>
    intro v0 v2 h H locs ls hI hl hf
    rw [f_Mod_holds_261] at hf
    refine lv_iload_n hx hb d_Mod_holds_261 rfl (lv_at hl 1 rfl) ?_
    refine lv_aload_n hx hb d_Mod_holds_262 rfl (lv_at hl 0 rfl) ?_
    obtain ⟨x1, ex1, hf⟩ := z_bs hf
    refine z_getF X hI (k := 66) (ci := 12) (gI_s ex1) i_Mod rfl (by decide) wf_Mod_378 d_Mod_holds_263 ?_
    refine lv_icmp_ge (tgt := 294) hx hb d_Mod_holds_266 (by decide) (fun c2 => ?_) (fun c2 => ?_)
    · rw [if_pos c2] at hf
      refine lv_aload_n hx hb d_Mod_holds_294 rfl (lv_at hl 0 rfl) ?_
      refine lv_dup hx hb d_Mod_holds_295 rfl ?_
      obtain ⟨x3, ex3, hf⟩ := z_bs hf
      refine z_getF X hI (k := 65) (ci := 12) (gI_s ex3) i_Mod rfl (by decide) wf_Mod_319 d_Mod_holds_296 ?_
      refine lv_aload_n hx hb d_Mod_holds_299 rfl (lv_at hl 0 rfl) ?_
      obtain ⟨x4, ex4, hf⟩ := z_bs hf
      refine z_getF X hI (k := 66) (ci := 12) (gI_s ex4) i_Mod rfl (by decide) wf_Mod_378 d_Mod_holds_300 ?_
      refine lv_iconst (v := 1) hx hb d_Mod_holds_303 (by decide) ?_
      refine lv_iadd hx hb d_Mod_holds_304 ?_
      refine lv_iadd hx hb d_Mod_holds_305 ?_
      obtain ⟨h5, eh5, hf⟩ := z_bs hf
      refine z_putF X hI (k := 65) (ci := 12) (ty0 := t_Mod) eh5 i_Mod t_Mod_ok n_Mod rfl (by decide) wf_Mod_319 rfl rfl rfl d_Mod_holds_306 (fun H locs hI => ?_)
      refine lv_iconst (v := 1) hx hb d_Mod_holds_309 (by decide) ?_
      cases hf
      exact z_zret X hI (Or.inr rfl) d_Mod_holds_310
    · rw [if_neg c2] at hf
      refine lv_aload_n hx hb d_Mod_holds_269 rfl (lv_at hl 0 rfl) ?_
      obtain ⟨x6, ex6, hf⟩ := z_bs hf
      refine z_getF X hI (k := 58) (ci := 12) (gR_s ex6) i_Mod rfl (by decide) wf_Mod_130 d_Mod_holds_270 ?_
      refine lv_aload_n hx hb d_Mod_holds_273 rfl (lv_at hl 0 rfl) ?_
      obtain ⟨x7, ex7, hf⟩ := z_bs hf
      refine z_getF X hI (k := 65) (ci := 12) (gI_s ex7) i_Mod rfl (by decide) wf_Mod_319 d_Mod_holds_274 ?_
      refine lv_iconst (v := 1) hx hb d_Mod_holds_277 (by decide) ?_
      refine lv_iadd hx hb d_Mod_holds_278 ?_
      refine lv_iload_n hx hb d_Mod_holds_279 rfl (lv_at hl 1 rfl) ?_
      refine lv_iadd hx hb d_Mod_holds_280 ?_
      refine lv_aload_n hx hb d_Mod_holds_281 rfl (lv_at hl 0 rfl) ?_
      obtain ⟨x8, ex8, hf⟩ := z_bs hf
      refine z_getF X hI (k := 59) (ci := 12) (gR_s ex8) i_Mod rfl (by decide) wf_Mod_133 d_Mod_holds_282 ?_
      refine lv_iload_n hx hb d_Mod_holds_285 rfl (lv_at hl 1 rfl) ?_
      obtain ⟨x9, ex9, hf⟩ := z_bs hf
      refine z_iald X hI ex9 d_Mod_holds_286 ?_
      obtain ⟨h10, eh10, hf⟩ := z_bs hf
      refine z_iast X hI eh10 d_Mod_holds_287 (fun H locs hI => ?_)
      obtain ⟨x11, ex11, hf⟩ := z_bs hf
      refine lv_iinc (v := x11) (lv' := [(2, .int x11), (0, .ref v0)]) hx hb d_Mod_holds_288 hl (k := 1) rfl (by rw [← Option.some.inj ex11]; rfl) (by decide) rfl (fun ls hl => ?_)
      refine lv_goto (tgt := 261) hx hb d_Mod_holds_291 (by decide) ?_
      exact ih v0 x11 h10 _ _ _ hI (lv_sub hl [1, 0] rfl) hf
def f_Mod_holds (N : Nat) (v0 : Nat) (v1 : Int32) (h : z_H) : Option (Int32 × z_H) :=
  if v1 = 104 then
  (f_Mod_holds_8 N N v0 0 h)
  else
  (if v1 = 103 then
  (f_Mod_holds_53 N N v0 0 h)
  else
  (if v1 = 120 then
  (f_Mod_holds_98 N N v0 0 h)
  else
  (z_b (gI h v0 12 65) fun x4 =>
  z_b (gI h v0 12 66) fun x5 =>
  if ((x4 + x5) + 1) ≤ 60 then
  (if v1 = 72 then
  (z_b (gR h v0 12 59) fun x11 =>
  z_b (gI h v0 12 66) fun x12 =>
  z_b (uI h x11 0 x12 10) fun h13 =>
  f_Mod_holds_197 N N v0 0 h13)
  else
  (z_b (gR h v0 12 58) fun x8 =>
  z_b (gI h v0 12 65) fun x9 =>
  z_b (uI h x8 0 x9 10) fun h10 =>
  f_Mod_holds_261 N N v0 0 h10))
  else
  (z_b (gO h v0 12) fun u14 =>
  z_b (f_Mod_full N v0 h) fun r15 =>
  z_b (zB (r15.1)) fun x16 =>
  some (x16, r15.2)))))
set_option maxRecDepth 20000 in
set_option maxHeartbeats 2000000 in
theorem s_Mod_holds {l : Launch} {D : va_G} {dA : Nat → ClassId} {B N : Nat} {v0 : Nat} {v1 : Int32} {h h' : z_H} {r : Int32} (hf : f_Mod_holds N v0 v1 h = some (r, h')) : z_Met l y_Mod_holds prog_14_method_60_code 4 (some .boolean) 1 20 D dA B [.ref v0, .int v1] h (some (.int r)) h' := by
  refine z_of (by decide) (Nat.le_of_ble_eq_true rfl) (fun p e s m below meth c ls X hI hl => ?_)
  have hx := z_hx X
  have hb := z_hb X
  have hl : lv_has ls 4 [(0, .ref v0), (1, .int v1)] := hl
  unfold f_Mod_holds at hf
  obtain ⟨locs, hlo⟩ : ∃ z : List Loc, z = [] := ⟨_, rfl⟩
  rw [← hlo] at hI ⊢
  refine lv_iload_n hx hb d_Mod_holds_0 rfl (lv_at hl 1 rfl) ?_
  refine lv_bipush (v := 104) hx hb d_Mod_holds_1 (by decide) ?_
  refine lv_icmp_ne (tgt := 45) hx hb d_Mod_holds_3 (by decide) (fun c1 => ?_) (fun c1 => ?_)
  · rw [if_neg c1] at hf
    refine lv_iload_n hx hb d_Mod_holds_45 rfl (lv_at hl 1 rfl) ?_
    refine lv_bipush (v := 103) hx hb d_Mod_holds_46 (by decide) ?_
    refine lv_icmp_ne (tgt := 90) hx hb d_Mod_holds_48 (by decide) (fun c2 => ?_) (fun c2 => ?_)
    · rw [if_neg c2] at hf
      refine lv_iload_n hx hb d_Mod_holds_90 rfl (lv_at hl 1 rfl) ?_
      refine lv_bipush (v := 120) hx hb d_Mod_holds_91 (by decide) ?_
      refine lv_icmp_ne (tgt := 157) hx hb d_Mod_holds_93 (by decide) (fun c3 => ?_) (fun c3 => ?_)
      · rw [if_neg c3] at hf
        refine lv_aload_n hx hb d_Mod_holds_157 rfl (lv_at hl 0 rfl) ?_
        obtain ⟨x4, ex4, hf⟩ := z_bs hf
        refine z_getF X hI (k := 65) (ci := 12) (gI_s ex4) i_Mod rfl (by decide) wf_Mod_319 d_Mod_holds_158 ?_
        refine lv_aload_n hx hb d_Mod_holds_161 rfl (lv_at hl 0 rfl) ?_
        obtain ⟨x5, ex5, hf⟩ := z_bs hf
        refine z_getF X hI (k := 66) (ci := 12) (gI_s ex5) i_Mod rfl (by decide) wf_Mod_378 d_Mod_holds_162 ?_
        refine lv_iadd hx hb d_Mod_holds_165 ?_
        refine lv_iconst (v := 1) hx hb d_Mod_holds_166 (by decide) ?_
        refine lv_iadd hx hb d_Mod_holds_167 ?_
        refine lv_bipush (v := 60) hx hb d_Mod_holds_168 (by decide) ?_
        refine lv_icmp_le (tgt := 178) hx hb d_Mod_holds_170 (by decide) (fun c6 => ?_) (fun c6 => ?_)
        · rw [if_pos c6] at hf
          refine lv_iload_n hx hb d_Mod_holds_178 rfl (lv_at hl 1 rfl) ?_
          refine lv_bipush (v := 72) hx hb d_Mod_holds_179 (by decide) ?_
          refine lv_icmp_ne (tgt := 248) hx hb d_Mod_holds_181 (by decide) (fun c7 => ?_) (fun c7 => ?_)
          · rw [if_neg c7] at hf
            refine lv_aload_n hx hb d_Mod_holds_248 rfl (lv_at hl 0 rfl) ?_
            obtain ⟨x8, ex8, hf⟩ := z_bs hf
            refine z_getF X hI (k := 58) (ci := 12) (gR_s ex8) i_Mod rfl (by decide) wf_Mod_130 d_Mod_holds_249 ?_
            refine lv_aload_n hx hb d_Mod_holds_252 rfl (lv_at hl 0 rfl) ?_
            obtain ⟨x9, ex9, hf⟩ := z_bs hf
            refine z_getF X hI (k := 65) (ci := 12) (gI_s ex9) i_Mod rfl (by decide) wf_Mod_319 d_Mod_holds_253 ?_
            refine lv_bipush (v := 10) hx hb d_Mod_holds_256 (by decide) ?_
            obtain ⟨h10, eh10, hf⟩ := z_bs hf
            refine z_iast X hI eh10 d_Mod_holds_258 (fun H locs hI => ?_)
            refine lv_iconst (v := 0) hx hb d_Mod_holds_259 (by decide) ?_
            refine lv_istore_n (lv' := [(2, .int 0), (0, .ref v0), (1, .int v1)]) hx hb d_Mod_holds_260 rfl hl (by decide) rfl (fun ls hl => ?_)
            exact s_Mod_holds_261 X  N v0 0 h10 _ _ _ hI (lv_sub hl [1, 0] rfl) hf
          · rw [if_pos c7] at hf
            refine lv_aload_n hx hb d_Mod_holds_184 rfl (lv_at hl 0 rfl) ?_
            obtain ⟨x11, ex11, hf⟩ := z_bs hf
            refine z_getF X hI (k := 59) (ci := 12) (gR_s ex11) i_Mod rfl (by decide) wf_Mod_133 d_Mod_holds_185 ?_
            refine lv_aload_n hx hb d_Mod_holds_188 rfl (lv_at hl 0 rfl) ?_
            obtain ⟨x12, ex12, hf⟩ := z_bs hf
            refine z_getF X hI (k := 66) (ci := 12) (gI_s ex12) i_Mod rfl (by decide) wf_Mod_378 d_Mod_holds_189 ?_
            refine lv_bipush (v := 10) hx hb d_Mod_holds_192 (by decide) ?_
            obtain ⟨h13, eh13, hf⟩ := z_bs hf
            refine z_iast X hI eh13 d_Mod_holds_194 (fun H locs hI => ?_)
            refine lv_iconst (v := 0) hx hb d_Mod_holds_195 (by decide) ?_
            refine lv_istore_n (lv' := [(2, .int 0), (0, .ref v0), (1, .int v1)]) hx hb d_Mod_holds_196 rfl hl (by decide) rfl (fun ls hl => ?_)
            exact s_Mod_holds_197 X  N v0 0 h13 _ _ _ hI (lv_sub hl [1, 0] rfl) hf
        · rw [if_neg c6] at hf
          refine lv_aload_n hx hb d_Mod_holds_173 rfl (lv_at hl 0 rfl) ?_
          obtain ⟨u14, eu14, hf⟩ := z_bs hf
          obtain ⟨r15, er15, hf⟩ := z_bs hf
          refine z_callV (As := []) (rest := []) (r := (some (.int r15.1))) (h' := r15.2) X hI eu14 (s_Mod_full er15) rfl rfl wm_Mod_337 yi_Mod_full rfl hl.1 rfl (Nat.le_of_ble_eq_true rfl) (by decide) (by decide) d_Mod_holds_174 (fun H locs hI => ?_)
          refine W.eq (g2 := F0 m 177 ls [.int (r15.1)]) rfl ?_
          obtain ⟨x16, ex16, hf⟩ := z_bs hf
          refine z_topi (zB_s ex16).1 ?_
          cases hf
          exact z_zret X hI (zB_s2 ex16) d_Mod_holds_177
      · rw [if_pos c3] at hf
        refine lv_iconst (v := 0) hx hb d_Mod_holds_96 (by decide) ?_
        refine lv_istore_n (lv' := [(2, .int 0), (0, .ref v0), (1, .int v1)]) hx hb d_Mod_holds_97 rfl hl (by decide) rfl (fun ls hl => ?_)
        exact s_Mod_holds_98 X  N v0 0 h _ _ _ hI (lv_sub hl [1, 0] rfl) hf
    · rw [if_pos c2] at hf
      refine lv_iconst (v := 0) hx hb d_Mod_holds_51 (by decide) ?_
      refine lv_istore_n (lv' := [(2, .int 0), (0, .ref v0), (1, .int v1)]) hx hb d_Mod_holds_52 rfl hl (by decide) rfl (fun ls hl => ?_)
      exact s_Mod_holds_53 X  N v0 0 h _ _ _ hI (lv_sub hl [1, 0] rfl) hf
  · rw [if_pos c1] at hf
    refine lv_iconst (v := 0) hx hb d_Mod_holds_6 (by decide) ?_
    refine lv_istore_n (lv' := [(2, .int 0), (0, .ref v0), (1, .int v1)]) hx hb d_Mod_holds_7 rfl hl (by decide) rfl (fun ls hl => ?_)
    exact s_Mod_holds_8 X  N v0 0 h _ _ _ hI (lv_sub hl [1, 0] rfl) hf
def f_Mod_endCycle_24 (N : Nat)  (v0 : Nat) (s0 : Int32) (h : z_H) : Option (Int32 × z_H) :=
  if s0 = 0 then
  (some (0, h))
  else
  (z_b (gI h v0 12 70) fun x2 =>
  z_b (gI h v0 12 4) fun x3 =>
  if x2 = x3 then
  (z_b (sF h v0 12 76 (.int 1)) fun h10 =>
  some (0, h10))
  else
  (z_b (gO h v0 12) fun u5 =>
  z_b (f_Mod_readLine N v0 h) fun r6 =>
  z_b (gI r6 v0 12 72) fun x7 =>
  z_b (sF r6 v0 12 72 (.int (x7 + 1))) fun h8 =>
  z_b (sF h8 v0 12 74 (.int 0)) fun h9 =>
  some (0, h9)))
set_option maxRecDepth 20000 in
set_option maxHeartbeats 2000000 in
theorem s_Mod_endCycle_24 (X : z_X p s m args meth c prog_14_method_61_code 3 (some .int) Ts "StreamForgeModel" D dA B) {N : Nat} {r : Int32} {h' : z_H}   : ∀ (v0 : Nat) (s0 : Int32) (h : z_H) (H : Heap) (locs : List Loc) (ls : Array Slot), z_I D dA B h s.heap H locs → lv_has ls 3 [(0, .ref v0)] → f_Mod_endCycle_24 N  v0 s0 h = some (r, h') → W p l e (z_rm 3 64) s m args below meth c H locs 0 0 (MQ below (z_Q D dA B (some (.int r)) h') args s 0 0 (fun q => B ≤ q)) (F0 m 24 ls [.int s0]) := by
  have hx := z_hx X
  have hb := z_hb X
  intro v0 s0 h H locs ls hI hl hf
  unfold f_Mod_endCycle_24 at hf
  refine lv_istore_n (lv' := [(2, .int s0), (0, .ref v0)]) hx hb d_Mod_endCycle_24 rfl hl (by decide) rfl (fun ls hl => ?_)
  refine lv_iload_n hx hb d_Mod_endCycle_25 rfl (lv_at hl 0 rfl) ?_
  refine lv_if_ne (tgt := 31) hx hb d_Mod_endCycle_26 (by decide) (fun c1 => ?_) (fun c1 => ?_)
  · rw [if_neg c1] at hf
    refine lv_aload_n hx hb d_Mod_endCycle_31 rfl (lv_at hl 1 rfl) ?_
    obtain ⟨x2, ex2, hf⟩ := z_bs hf
    refine z_getF X hI (k := 70) (ci := 12) (gI_s ex2) i_Mod rfl (by decide) wf_Mod_346 d_Mod_endCycle_32 ?_
    refine lv_aload_n hx hb d_Mod_endCycle_35 rfl (lv_at hl 1 rfl) ?_
    obtain ⟨x3, ex3, hf⟩ := z_bs hf
    refine z_getF X hI (k := 4) (ci := 12) (gI_s ex3) i_Mod rfl (by decide) wf_Mod_169 d_Mod_endCycle_36 ?_
    refine lv_icmp_ne (tgt := 50) hx hb d_Mod_endCycle_39 (by decide) (fun c4 => ?_) (fun c4 => ?_)
    · rw [if_neg c4] at hf
      refine lv_aload_n hx hb d_Mod_endCycle_50 rfl (lv_at hl 1 rfl) ?_
      obtain ⟨u5, eu5, hf⟩ := z_bs hf
      obtain ⟨r6, er6, hf⟩ := z_bs hf
      refine z_callV (As := []) (rest := []) (r := none) (h' := r6) X hI eu5 (s_Mod_readLine er6) rfl rfl wm_Mod_384 yi_Mod_readLine rfl hl.1 rfl (Nat.le_of_ble_eq_true rfl) (by decide) (by decide) d_Mod_endCycle_51 (fun H locs hI => ?_)
      refine W.eq (g2 := F0 m 54 ls []) rfl ?_
      refine lv_aload_n hx hb d_Mod_endCycle_54 rfl (lv_at hl 1 rfl) ?_
      refine lv_dup hx hb d_Mod_endCycle_55 rfl ?_
      obtain ⟨x7, ex7, hf⟩ := z_bs hf
      refine z_getF X hI (k := 72) (ci := 12) (gI_s ex7) i_Mod rfl (by decide) wf_Mod_387 d_Mod_endCycle_56 ?_
      refine lv_iconst (v := 1) hx hb d_Mod_endCycle_59 (by decide) ?_
      refine lv_iadd hx hb d_Mod_endCycle_60 ?_
      obtain ⟨h8, eh8, hf⟩ := z_bs hf
      refine z_putF X hI (k := 72) (ci := 12) (ty0 := t_Mod) eh8 i_Mod t_Mod_ok n_Mod rfl (by decide) wf_Mod_387 rfl rfl rfl d_Mod_endCycle_61 (fun H locs hI => ?_)
      refine lv_aload_n hx hb d_Mod_endCycle_64 rfl (lv_at hl 1 rfl) ?_
      refine lv_iconst (v := 0) hx hb d_Mod_endCycle_65 (by decide) ?_
      obtain ⟨h9, eh9, hf⟩ := z_bs hf
      refine z_putF X hI (k := 74) (ci := 12) (ty0 := t_Mod) eh9 i_Mod t_Mod_ok n_Mod rfl (by decide) wf_Mod_371 rfl rfl rfl d_Mod_endCycle_66 (fun H locs hI => ?_)
      refine lv_iconst (v := 0) hx hb d_Mod_endCycle_69 (by decide) ?_
      cases hf
      exact z_iret X hI d_Mod_endCycle_70
    · rw [if_pos c4] at hf
      refine lv_aload_n hx hb d_Mod_endCycle_42 rfl (lv_at hl 1 rfl) ?_
      refine lv_iconst (v := 1) hx hb d_Mod_endCycle_43 (by decide) ?_
      obtain ⟨h10, eh10, hf⟩ := z_bs hf
      refine z_putF X hI (k := 76) (ci := 12) (ty0 := t_Mod) eh10 i_Mod t_Mod_ok n_Mod rfl (by decide) wf_Mod_328 rfl rfl rfl d_Mod_endCycle_44 (fun H locs hI => ?_)
      refine lv_goto (tgt := 69) hx hb d_Mod_endCycle_47 (by decide) ?_
      refine lv_iconst (v := 0) hx hb d_Mod_endCycle_69 (by decide) ?_
      cases hf
      exact z_iret X hI d_Mod_endCycle_70
  · rw [if_pos c1] at hf
    refine lv_iconst (v := 0) hx hb d_Mod_endCycle_29 (by decide) ?_
    cases hf
    exact z_iret X hI d_Mod_endCycle_30
def f_Mod_endCycle_12 (N : Nat)  (v0 : Nat) (h : z_H) : Option (Int32 × z_H) :=
  z_b (gO h v0 12) fun u1 =>
  z_b (f_Mod_tellAppended N v0 h) fun r2 =>
  if (r2.1) = 0 then
  (f_Mod_endCycle_24 N v0 0 r2.2)
  else
  (f_Mod_endCycle_24 N v0 1 r2.2)
set_option maxRecDepth 20000 in
set_option maxHeartbeats 2000000 in
theorem s_Mod_endCycle_12 (X : z_X p s m args meth c prog_14_method_61_code 3 (some .int) Ts "StreamForgeModel" D dA B) {N : Nat} {r : Int32} {h' : z_H}   : ∀ (v0 : Nat) (h : z_H) (H : Heap) (locs : List Loc) (ls : Array Slot), z_I D dA B h s.heap H locs → lv_has ls 3 [(0, .ref v0)] → f_Mod_endCycle_12 N  v0 h = some (r, h') → W p l e (z_rm 3 64) s m args below meth c H locs 0 0 (MQ below (z_Q D dA B (some (.int r)) h') args s 0 0 (fun q => B ≤ q)) (F0 m 12 ls []) := by
  have hx := z_hx X
  have hb := z_hb X
  intro v0 h H locs ls hI hl hf
  unfold f_Mod_endCycle_12 at hf
  refine lv_aload_n hx hb d_Mod_endCycle_12 rfl (lv_at hl 0 rfl) ?_
  obtain ⟨u1, eu1, hf⟩ := z_bs hf
  obtain ⟨r2, er2, hf⟩ := z_bs hf
  refine z_callV (As := []) (rest := []) (r := (some (.int r2.1))) (h' := r2.2) X hI eu1 (s_Mod_tellAppended er2) rfl rfl wm_Mod_381 yi_Mod_tellAppended rfl hl.1 rfl (Nat.le_of_ble_eq_true rfl) (by decide) (by decide) d_Mod_endCycle_13 (fun H locs hI => ?_)
  refine W.eq (g2 := F0 m 16 ls [.int (r2.1)]) rfl ?_
  refine lv_if_eq (tgt := 23) hx hb d_Mod_endCycle_16 (by decide) (fun c3 => ?_) (fun c3 => ?_)
  · rw [if_pos c3] at hf
    refine lv_iconst (v := 0) hx hb d_Mod_endCycle_23 (by decide) ?_
    exact s_Mod_endCycle_24 X  v0 0 r2.2 _ _ _ hI (lv_sub hl [0] rfl) hf
  · rw [if_neg c3] at hf
    refine lv_iconst (v := 1) hx hb d_Mod_endCycle_19 (by decide) ?_
    refine lv_goto (tgt := 24) hx hb d_Mod_endCycle_20 (by decide) ?_
    exact s_Mod_endCycle_24 X  v0 1 r2.2 _ _ _ hI (lv_sub hl [0] rfl) hf
def f_Mod_endCycle (N : Nat) (v0 : Nat) (v1 : Int32) (h : z_H) : Option (Int32 × z_H) :=
  if v1 = 0 then
  (f_Mod_endCycle_12 N v0 h)
  else
  (z_b (gO h v0 12) fun u2 =>
  z_b (f_Mod_tellSpace N v0 0 h) fun r3 =>
  if (r3.1) = 0 then
  (f_Mod_endCycle_24 N v0 0 r3.2)
  else
  (f_Mod_endCycle_12 N v0 r3.2))
set_option maxRecDepth 20000 in
set_option maxHeartbeats 2000000 in
theorem s_Mod_endCycle {l : Launch} {D : va_G} {dA : Nat → ClassId} {B N : Nat} {v0 : Nat} {v1 : Int32} {h h' : z_H} {r : Int32} (hf : f_Mod_endCycle N v0 v1 h = some (r, h')) : z_Met l y_Mod_endCycle prog_14_method_61_code 3 (some .int) 3 64 D dA B [.ref v0, .int v1] h (some (.int r)) h' := by
  refine z_of (by decide) (Nat.le_of_ble_eq_true rfl) (fun p e s m below meth c ls X hI hl => ?_)
  have hx := z_hx X
  have hb := z_hb X
  have hl : lv_has ls 3 [(0, .ref v0), (1, .int v1)] := hl
  unfold f_Mod_endCycle at hf
  obtain ⟨locs, hlo⟩ : ∃ z : List Loc, z = [] := ⟨_, rfl⟩
  rw [← hlo] at hI ⊢
  refine lv_iload_n hx hb d_Mod_endCycle_0 rfl (lv_at hl 1 rfl) ?_
  refine lv_if_eq (tgt := 12) hx hb d_Mod_endCycle_1 (by decide) (fun c1 => ?_) (fun c1 => ?_)
  · rw [if_pos c1] at hf
    exact s_Mod_endCycle_12 X  v0 h _ _ _ hI (lv_sub hl [0] rfl) hf
  · rw [if_neg c1] at hf
    refine lv_aload_n hx hb d_Mod_endCycle_4 rfl (lv_at hl 0 rfl) ?_
    refine lv_iconst (v := 0) hx hb d_Mod_endCycle_5 (by decide) ?_
    obtain ⟨u2, eu2, hf⟩ := z_bs hf
    obtain ⟨r3, er3, hf⟩ := z_bs hf
    refine z_callV (As := [.int 0]) (rest := []) (r := (some (.int r3.1))) (h' := r3.2) X hI eu2 (s_Mod_tellSpace er3) rfl rfl wm_Mod_374 yi_Mod_tellSpace rfl hl.1 rfl (Nat.le_of_ble_eq_true rfl) (by decide) (by decide) d_Mod_endCycle_6 (fun H locs hI => ?_)
    refine W.eq (g2 := F0 m 9 ls [.int (r3.1)]) rfl ?_
    refine lv_if_eq (tgt := 23) hx hb d_Mod_endCycle_9 (by decide) (fun c4 => ?_) (fun c4 => ?_)
    · rw [if_pos c4] at hf
      refine lv_iconst (v := 0) hx hb d_Mod_endCycle_23 (by decide) ?_
      exact s_Mod_endCycle_24 X  v0 0 r3.2 _ _ _ hI (lv_sub hl [0] rfl) hf
    · rw [if_neg c4] at hf
      exact s_Mod_endCycle_12 X  v0 r3.2 _ _ _ hI (lv_sub hl [0] rfl) hf
def f_Mod_nextLine_64 (N : Nat)  (v2 : Int32) (h : z_H) : Option (Int32 × z_H) :=
  some (v2 + 1, h)
set_option maxRecDepth 20000 in
set_option maxHeartbeats 2000000 in
theorem s_Mod_nextLine_64 (X : z_X p s m args meth c prog_14_method_62_code 6 (some .int) Ts "StreamForgeModel" D dA B) {N : Nat} {r : Int32} {h' : z_H}   : ∀ (v2 : Int32) (h : z_H) (H : Heap) (locs : List Loc) (ls : Array Slot), z_I D dA B h s.heap H locs → lv_has ls 6 [(2, .int v2)] → f_Mod_nextLine_64 N  v2 h = some (r, h') → W p l e (z_rm 4 86) s m args below meth c H locs 0 0 (MQ below (z_Q D dA B (some (.int r)) h') args s 0 0 (fun q => B ≤ q)) (F0 m 64 ls []) := by
  have hx := z_hx X
  have hb := z_hb X
  intro v2 h H locs ls hI hl hf
  unfold f_Mod_nextLine_64 at hf
  refine lv_iload_n hx hb d_Mod_nextLine_64 rfl (lv_at hl 0 rfl) ?_
  refine lv_iconst (v := 1) hx hb d_Mod_nextLine_65 (by decide) ?_
  refine lv_iadd hx hb d_Mod_nextLine_66 ?_
  cases hf
  exact z_iret X hI d_Mod_nextLine_67
def f_Mod_nextLine_55 (N : Nat)  (v0 : Nat) (v2 : Int32) (s0 : Int32) (h : z_H) : Option (Int32 × z_H) :=
  if s0 = 0 then
  (f_Mod_nextLine_64 N v2 h)
  else
  (z_b (gO h v0 12) fun u2 =>
  z_b (f_Mod_readLine N v0 h) fun r3 =>
  f_Mod_nextLine_64 N v2 r3)
set_option maxRecDepth 20000 in
set_option maxHeartbeats 2000000 in
theorem s_Mod_nextLine_55 (X : z_X p s m args meth c prog_14_method_62_code 6 (some .int) Ts "StreamForgeModel" D dA B) {N : Nat} {r : Int32} {h' : z_H}   : ∀ (v0 : Nat) (v2 : Int32) (s0 : Int32) (h : z_H) (H : Heap) (locs : List Loc) (ls : Array Slot), z_I D dA B h s.heap H locs → lv_has ls 6 [(0, .ref v0), (2, .int v2)] → f_Mod_nextLine_55 N  v0 v2 s0 h = some (r, h') → W p l e (z_rm 4 86) s m args below meth c H locs 0 0 (MQ below (z_Q D dA B (some (.int r)) h') args s 0 0 (fun q => B ≤ q)) (F0 m 55 ls [.int s0]) := by
  have hx := z_hx X
  have hb := z_hb X
  intro v0 v2 s0 h H locs ls hI hl hf
  unfold f_Mod_nextLine_55 at hf
  refine lv_istore_n (lv' := [(3, .int s0), (0, .ref v0), (2, .int v2)]) hx hb d_Mod_nextLine_55 rfl hl (by decide) rfl (fun ls hl => ?_)
  refine lv_iload_n hx hb d_Mod_nextLine_56 rfl (lv_at hl 0 rfl) ?_
  refine lv_if_eq (tgt := 64) hx hb d_Mod_nextLine_57 (by decide) (fun c1 => ?_) (fun c1 => ?_)
  · rw [if_pos c1] at hf
    exact s_Mod_nextLine_64 X  v2 h _ _ _ hI (lv_sub hl [2] rfl) hf
  · rw [if_neg c1] at hf
    refine lv_aload_n hx hb d_Mod_nextLine_60 rfl (lv_at hl 1 rfl) ?_
    obtain ⟨u2, eu2, hf⟩ := z_bs hf
    obtain ⟨r3, er3, hf⟩ := z_bs hf
    refine z_callV (As := []) (rest := []) (r := none) (h' := r3) X hI eu2 (s_Mod_readLine er3) rfl rfl wm_Mod_384 yi_Mod_readLine rfl hl.1 rfl (Nat.le_of_ble_eq_true rfl) (by decide) (by decide) d_Mod_nextLine_61 (fun H locs hI => ?_)
    refine W.eq (g2 := F0 m 64 ls []) rfl ?_
    exact s_Mod_nextLine_64 X  v2 r3 _ _ _ hI (lv_sub hl [2] rfl) hf
def f_Mod_nextLine_125 (N : Nat)  : Nat → Nat → Int32 → Int32 → Int32 → z_H → Option (Int32 × z_H)
  | 0, _, _, _, _, _ => none
  | n + 1, v0, v2, v3, v5, h =>
    if v3 ≤ v5 then
    (z_b (gI h v0 12 65) fun x2 =>
    z_b (sF h v0 12 65 (.int (x2 + (v3 + 1)))) fun h3 =>
    z_b (gI h3 v0 12 70) fun x4 =>
    z_b (sF h3 v0 12 70 (.int (x4 + 1))) fun h5 =>
    some (v2 + 1, h5))
    else
    (z_b (gR h v0 12 58) fun x6 =>
    z_b (gI h v0 12 65) fun x7 =>
    z_b (gR h v0 12 2) fun x8 =>
    z_b (gI h v0 12 70) fun x9 =>
    z_b (aI h x8 0 ((24 * x9) + v5)) fun x10 =>
    z_b (uI h x6 0 ((x7 + 1) + v5) x10) fun h11 =>
    z_b (some (v5 + 1)) fun x12 =>
    (f_Mod_nextLine_125 N  n) v0 v2 v3 x12 h11)
set_option maxRecDepth 20000 in
set_option maxHeartbeats 2000000 in
theorem s_Mod_nextLine_125 (X : z_X p s m args meth c prog_14_method_62_code 6 (some .int) Ts "StreamForgeModel" D dA B) {N : Nat} {r : Int32} {h' : z_H}   : ∀ n : Nat, ∀ (v0 : Nat) (v2 : Int32) (v3 : Int32) (v5 : Int32) (h : z_H) (H : Heap) (locs : List Loc) (ls : Array Slot), z_I D dA B h s.heap H locs → lv_has ls 6 [(0, .ref v0), (2, .int v2), (3, .int v3), (5, .int v5)] → f_Mod_nextLine_125 N  n v0 v2 v3 v5 h = some (r, h') → W p l e (z_rm 4 86) s m args below meth c H locs 0 0 (MQ below (z_Q D dA B (some (.int r)) h') args s 0 0 (fun q => B ≤ q)) (F0 m 125 ls []) := by
  have hx := z_hx X
  have hb := z_hb X
  intro n
  induction n with
  | zero => intro v0 v2 v3 v5 h H locs ls hI hl hf; rw [f_Mod_nextLine_125] at hf; cases hf
  | succ n ih =>
    intro v0 v2 v3 v5 h H locs ls hI hl hf
    rw [f_Mod_nextLine_125] at hf
    refine lv_iload hx hb d_Mod_nextLine_125 (lv_at hl 3 rfl) ?_
    refine lv_iload_n hx hb d_Mod_nextLine_127 rfl (lv_at hl 2 rfl) ?_
    refine lv_icmp_ge (tgt := 166) hx hb d_Mod_nextLine_128 (by decide) (fun c1 => ?_) (fun c1 => ?_)
    · rw [if_pos c1] at hf
      refine lv_aload_n hx hb d_Mod_nextLine_166 rfl (lv_at hl 0 rfl) ?_
      refine lv_dup hx hb d_Mod_nextLine_167 rfl ?_
      obtain ⟨x2, ex2, hf⟩ := z_bs hf
      refine z_getF X hI (k := 65) (ci := 12) (gI_s ex2) i_Mod rfl (by decide) wf_Mod_319 d_Mod_nextLine_168 ?_
      refine lv_iload_n hx hb d_Mod_nextLine_171 rfl (lv_at hl 2 rfl) ?_
      refine lv_iconst (v := 1) hx hb d_Mod_nextLine_172 (by decide) ?_
      refine lv_iadd hx hb d_Mod_nextLine_173 ?_
      refine lv_iadd hx hb d_Mod_nextLine_174 ?_
      obtain ⟨h3, eh3, hf⟩ := z_bs hf
      refine z_putF X hI (k := 65) (ci := 12) (ty0 := t_Mod) eh3 i_Mod t_Mod_ok n_Mod rfl (by decide) wf_Mod_319 rfl rfl rfl d_Mod_nextLine_175 (fun H locs hI => ?_)
      refine lv_aload_n hx hb d_Mod_nextLine_178 rfl (lv_at hl 0 rfl) ?_
      refine lv_dup hx hb d_Mod_nextLine_179 rfl ?_
      obtain ⟨x4, ex4, hf⟩ := z_bs hf
      refine z_getF X hI (k := 70) (ci := 12) (gI_s ex4) i_Mod rfl (by decide) wf_Mod_346 d_Mod_nextLine_180 ?_
      refine lv_iconst (v := 1) hx hb d_Mod_nextLine_183 (by decide) ?_
      refine lv_iadd hx hb d_Mod_nextLine_184 ?_
      obtain ⟨h5, eh5, hf⟩ := z_bs hf
      refine z_putF X hI (k := 70) (ci := 12) (ty0 := t_Mod) eh5 i_Mod t_Mod_ok n_Mod rfl (by decide) wf_Mod_346 rfl rfl rfl d_Mod_nextLine_185 (fun H locs hI => ?_)
      refine lv_iload_n hx hb d_Mod_nextLine_188 rfl (lv_at hl 1 rfl) ?_
      refine lv_iconst (v := 1) hx hb d_Mod_nextLine_189 (by decide) ?_
      refine lv_iadd hx hb d_Mod_nextLine_190 ?_
      cases hf
      exact z_iret X hI d_Mod_nextLine_191
    · rw [if_neg c1] at hf
      refine lv_aload_n hx hb d_Mod_nextLine_131 rfl (lv_at hl 0 rfl) ?_
      obtain ⟨x6, ex6, hf⟩ := z_bs hf
      refine z_getF X hI (k := 58) (ci := 12) (gR_s ex6) i_Mod rfl (by decide) wf_Mod_130 d_Mod_nextLine_132 ?_
      refine lv_aload_n hx hb d_Mod_nextLine_135 rfl (lv_at hl 0 rfl) ?_
      obtain ⟨x7, ex7, hf⟩ := z_bs hf
      refine z_getF X hI (k := 65) (ci := 12) (gI_s ex7) i_Mod rfl (by decide) wf_Mod_319 d_Mod_nextLine_136 ?_
      refine lv_iconst (v := 1) hx hb d_Mod_nextLine_139 (by decide) ?_
      refine lv_iadd hx hb d_Mod_nextLine_140 ?_
      refine lv_iload hx hb d_Mod_nextLine_141 (lv_at hl 3 rfl) ?_
      refine lv_iadd hx hb d_Mod_nextLine_143 ?_
      refine lv_aload_n hx hb d_Mod_nextLine_144 rfl (lv_at hl 0 rfl) ?_
      obtain ⟨x8, ex8, hf⟩ := z_bs hf
      refine z_getF X hI (k := 2) (ci := 12) (gR_s ex8) i_Mod rfl (by decide) wf_Mod_16 d_Mod_nextLine_145 ?_
      refine lv_bipush (v := 24) hx hb d_Mod_nextLine_148 (by decide) ?_
      refine lv_aload_n hx hb d_Mod_nextLine_150 rfl (lv_at hl 0 rfl) ?_
      obtain ⟨x9, ex9, hf⟩ := z_bs hf
      refine z_getF X hI (k := 70) (ci := 12) (gI_s ex9) i_Mod rfl (by decide) wf_Mod_346 d_Mod_nextLine_151 ?_
      refine lv_imul hx hb d_Mod_nextLine_154 ?_
      refine lv_iload hx hb d_Mod_nextLine_155 (lv_at hl 3 rfl) ?_
      refine lv_iadd hx hb d_Mod_nextLine_157 ?_
      obtain ⟨x10, ex10, hf⟩ := z_bs hf
      refine z_iald X hI ex10 d_Mod_nextLine_158 ?_
      obtain ⟨h11, eh11, hf⟩ := z_bs hf
      refine z_iast X hI eh11 d_Mod_nextLine_159 (fun H locs hI => ?_)
      obtain ⟨x12, ex12, hf⟩ := z_bs hf
      refine lv_iinc (v := x12) (lv' := [(5, .int x12), (0, .ref v0), (2, .int v2), (3, .int v3)]) hx hb d_Mod_nextLine_160 hl (k := 3) rfl (by rw [← Option.some.inj ex12]; rfl) (by decide) rfl (fun ls hl => ?_)
      refine lv_goto (tgt := 125) hx hb d_Mod_nextLine_163 (by decide) ?_
      exact ih v0 v2 v3 x12 h11 _ _ _ hI (lv_sub hl [1, 2, 3, 0] rfl) hf
def f_Mod_nextLine (N : Nat) (v0 : Nat) (v1 : Int32) (v2 : Int32) (h : z_H) : Option (Int32 × z_H) :=
  z_b (gI h v0 12 70) fun x1 =>
  z_b (gI h v0 12 4) fun x2 =>
  if x1 = x2 then
  (z_b (gO h v0 12) fun u27 =>
  z_b (f_Mod_endCycle N v0 1 h) fun r28 =>
  z_b (sF r28.2 v0 12 76 (.int 1)) fun h29 =>
  some (0, h29))
  else
  (z_b (gR h v0 12 9) fun x4 =>
  z_b (aI h x4 0 v1) fun x5 =>
  if x5 = 110 then
  (z_b (gO h v0 12) fun u21 =>
  z_b (f_Mod_tellSpace N v0 0 h) fun r22 =>
  if (r22.1) = 0 then
  (f_Mod_nextLine_55 N v0 v2 0 r22.2)
  else
  (z_b (gO r22.2 v0 12) fun u24 =>
  z_b (f_Mod_tellAppended N v0 r22.2) fun r25 =>
  if (r25.1) = 0 then
  (f_Mod_nextLine_55 N v0 v2 0 r25.2)
  else
  (f_Mod_nextLine_55 N v0 v2 1 r25.2)))
  else
  (z_b (gR h v0 12 1) fun x7 =>
  z_b (gI h v0 12 70) fun x8 =>
  z_b (aI h x7 0 x8) fun x9 =>
  z_b (gI h v0 12 65) fun x10 =>
  if ((x10 + 1) + x9) ≤ 60 then
  (z_b (gO h v0 12) fun u12 =>
  z_b (f_Mod_tellAppended N v0 h) fun r13 =>
  z_b (some (r13.1)) fun x14 =>
  if x14 = 0 then
  (some (0, r13.2))
  else
  (z_b (gR r13.2 v0 12 58) fun x16 =>
  z_b (gI r13.2 v0 12 65) fun x17 =>
  z_b (uI r13.2 x16 0 x17 10) fun h18 =>
  f_Mod_nextLine_125 N N v0 v2 x9 0 h18))
  else
  (z_b (gO h v0 12) fun u19 =>
  z_b (f_Mod_full N v0 h) fun r20 =>
  some (0, r20.2))))
set_option maxRecDepth 20000 in
set_option maxHeartbeats 2000000 in
theorem s_Mod_nextLine {l : Launch} {D : va_G} {dA : Nat → ClassId} {B N : Nat} {v0 : Nat} {v1 : Int32} {v2 : Int32} {h h' : z_H} {r : Int32} (hf : f_Mod_nextLine N v0 v1 v2 h = some (r, h')) : z_Met l y_Mod_nextLine prog_14_method_62_code 6 (some .int) 4 86 D dA B [.ref v0, .int v1, .int v2] h (some (.int r)) h' := by
  refine z_of (by decide) (Nat.le_of_ble_eq_true rfl) (fun p e s m below meth c ls X hI hl => ?_)
  have hx := z_hx X
  have hb := z_hb X
  have hl : lv_has ls 6 [(0, .ref v0), (1, .int v1), (2, .int v2)] := hl
  unfold f_Mod_nextLine at hf
  obtain ⟨locs, hlo⟩ : ∃ z : List Loc, z = [] := ⟨_, rfl⟩
  rw [← hlo] at hI ⊢
  refine lv_aload_n hx hb d_Mod_nextLine_0 rfl (lv_at hl 0 rfl) ?_
  obtain ⟨x1, ex1, hf⟩ := z_bs hf
  refine z_getF X hI (k := 70) (ci := 12) (gI_s ex1) i_Mod rfl (by decide) wf_Mod_346 d_Mod_nextLine_1 ?_
  refine lv_aload_n hx hb d_Mod_nextLine_4 rfl (lv_at hl 0 rfl) ?_
  obtain ⟨x2, ex2, hf⟩ := z_bs hf
  refine z_getF X hI (k := 4) (ci := 12) (gI_s ex2) i_Mod rfl (by decide) wf_Mod_169 d_Mod_nextLine_5 ?_
  refine lv_icmp_ne (tgt := 24) hx hb d_Mod_nextLine_8 (by decide) (fun c3 => ?_) (fun c3 => ?_)
  · rw [if_neg c3] at hf
    refine lv_aload_n hx hb d_Mod_nextLine_24 rfl (lv_at hl 0 rfl) ?_
    obtain ⟨x4, ex4, hf⟩ := z_bs hf
    refine z_getF X hI (k := 9) (ci := 12) (gR_s ex4) i_Mod rfl (by decide) wf_Mod_23 d_Mod_nextLine_25 ?_
    refine lv_iload_n hx hb d_Mod_nextLine_28 rfl (lv_at hl 1 rfl) ?_
    obtain ⟨x5, ex5, hf⟩ := z_bs hf
    refine z_iald X hI ex5 d_Mod_nextLine_29 ?_
    refine lv_bipush (v := 110) hx hb d_Mod_nextLine_30 (by decide) ?_
    refine lv_icmp_ne (tgt := 68) hx hb d_Mod_nextLine_32 (by decide) (fun c6 => ?_) (fun c6 => ?_)
    · rw [if_neg c6] at hf
      refine lv_aload_n hx hb d_Mod_nextLine_68 rfl (lv_at hl 0 rfl) ?_
      obtain ⟨x7, ex7, hf⟩ := z_bs hf
      refine z_getF X hI (k := 1) (ci := 12) (gR_s ex7) i_Mod rfl (by decide) wf_Mod_13 d_Mod_nextLine_69 ?_
      refine lv_aload_n hx hb d_Mod_nextLine_72 rfl (lv_at hl 0 rfl) ?_
      obtain ⟨x8, ex8, hf⟩ := z_bs hf
      refine z_getF X hI (k := 70) (ci := 12) (gI_s ex8) i_Mod rfl (by decide) wf_Mod_346 d_Mod_nextLine_73 ?_
      obtain ⟨x9, ex9, hf⟩ := z_bs hf
      refine z_iald X hI ex9 d_Mod_nextLine_76 ?_
      refine lv_istore_n (lv' := [(3, .int x9), (0, .ref v0), (1, .int v1), (2, .int v2)]) hx hb d_Mod_nextLine_77 rfl hl (by decide) rfl (fun ls hl => ?_)
      refine lv_aload_n hx hb d_Mod_nextLine_78 rfl (lv_at hl 1 rfl) ?_
      obtain ⟨x10, ex10, hf⟩ := z_bs hf
      refine z_getF X hI (k := 65) (ci := 12) (gI_s ex10) i_Mod rfl (by decide) wf_Mod_319 d_Mod_nextLine_79 ?_
      refine lv_iconst (v := 1) hx hb d_Mod_nextLine_82 (by decide) ?_
      refine lv_iadd hx hb d_Mod_nextLine_83 ?_
      refine lv_iload_n hx hb d_Mod_nextLine_84 rfl (lv_at hl 0 rfl) ?_
      refine lv_iadd hx hb d_Mod_nextLine_85 ?_
      refine lv_bipush (v := 60) hx hb d_Mod_nextLine_86 (by decide) ?_
      refine lv_icmp_le (tgt := 98) hx hb d_Mod_nextLine_88 (by decide) (fun c11 => ?_) (fun c11 => ?_)
      · rw [if_pos c11] at hf
        refine lv_aload_n hx hb d_Mod_nextLine_98 rfl (lv_at hl 1 rfl) ?_
        obtain ⟨u12, eu12, hf⟩ := z_bs hf
        obtain ⟨r13, er13, hf⟩ := z_bs hf
        refine z_callV (As := []) (rest := []) (r := (some (.int r13.1))) (h' := r13.2) X hI eu12 (s_Mod_tellAppended er13) rfl rfl wm_Mod_381 yi_Mod_tellAppended rfl hl.1 rfl (Nat.le_of_ble_eq_true rfl) (by decide) (by decide) d_Mod_nextLine_99 (fun H locs hI => ?_)
        refine W.eq (g2 := F0 m 102 ls [.int (r13.1)]) rfl ?_
        obtain ⟨x14, ex14, hf⟩ := z_bs hf
        refine z_topi (Option.some.inj ex14) ?_
        refine lv_istore (lv' := [(4, .int x14), (3, .int x9), (0, .ref v0), (1, .int v1), (2, .int v2)]) hx hb d_Mod_nextLine_102 hl (by decide) rfl (fun ls hl => ?_)
        refine lv_iload hx hb d_Mod_nextLine_104 (lv_at hl 0 rfl) ?_
        refine lv_if_ne (tgt := 111) hx hb d_Mod_nextLine_106 (by decide) (fun c15 => ?_) (fun c15 => ?_)
        · rw [if_neg c15] at hf
          refine lv_aload_n hx hb d_Mod_nextLine_111 rfl (lv_at hl 2 rfl) ?_
          obtain ⟨x16, ex16, hf⟩ := z_bs hf
          refine z_getF X hI (k := 58) (ci := 12) (gR_s ex16) i_Mod rfl (by decide) wf_Mod_130 d_Mod_nextLine_112 ?_
          refine lv_aload_n hx hb d_Mod_nextLine_115 rfl (lv_at hl 2 rfl) ?_
          obtain ⟨x17, ex17, hf⟩ := z_bs hf
          refine z_getF X hI (k := 65) (ci := 12) (gI_s ex17) i_Mod rfl (by decide) wf_Mod_319 d_Mod_nextLine_116 ?_
          refine lv_bipush (v := 10) hx hb d_Mod_nextLine_119 (by decide) ?_
          obtain ⟨h18, eh18, hf⟩ := z_bs hf
          refine z_iast X hI eh18 d_Mod_nextLine_121 (fun H locs hI => ?_)
          refine lv_iconst (v := 0) hx hb d_Mod_nextLine_122 (by decide) ?_
          refine lv_istore (lv' := [(5, .int 0), (4, .int x14), (3, .int x9), (0, .ref v0), (1, .int v1), (2, .int v2)]) hx hb d_Mod_nextLine_123 hl (by decide) rfl (fun ls hl => ?_)
          exact s_Mod_nextLine_125 X  N v0 v2 x9 0 h18 _ _ _ hI (lv_sub hl [3, 5, 2, 0] rfl) hf
        · rw [if_pos c15] at hf
          refine lv_iconst (v := 0) hx hb d_Mod_nextLine_109 (by decide) ?_
          cases hf
          exact z_iret X hI d_Mod_nextLine_110
      · rw [if_neg c11] at hf
        refine lv_aload_n hx hb d_Mod_nextLine_91 rfl (lv_at hl 1 rfl) ?_
        obtain ⟨u19, eu19, hf⟩ := z_bs hf
        obtain ⟨r20, er20, hf⟩ := z_bs hf
        refine z_callV (As := []) (rest := []) (r := (some (.int r20.1))) (h' := r20.2) X hI eu19 (s_Mod_full er20) rfl rfl wm_Mod_337 yi_Mod_full rfl hl.1 rfl (Nat.le_of_ble_eq_true rfl) (by decide) (by decide) d_Mod_nextLine_92 (fun H locs hI => ?_)
        refine W.eq (g2 := F0 m 95 ls [.int (r20.1)]) rfl ?_
        refine lv_pop hx hb d_Mod_nextLine_95 rfl ?_
        refine lv_iconst (v := 0) hx hb d_Mod_nextLine_96 (by decide) ?_
        cases hf
        exact z_iret X hI d_Mod_nextLine_97
    · rw [if_pos c6] at hf
      refine lv_aload_n hx hb d_Mod_nextLine_35 rfl (lv_at hl 0 rfl) ?_
      refine lv_iconst (v := 0) hx hb d_Mod_nextLine_36 (by decide) ?_
      obtain ⟨u21, eu21, hf⟩ := z_bs hf
      obtain ⟨r22, er22, hf⟩ := z_bs hf
      refine z_callV (As := [.int 0]) (rest := []) (r := (some (.int r22.1))) (h' := r22.2) X hI eu21 (s_Mod_tellSpace er22) rfl rfl wm_Mod_374 yi_Mod_tellSpace rfl hl.1 rfl (Nat.le_of_ble_eq_true rfl) (by decide) (by decide) d_Mod_nextLine_37 (fun H locs hI => ?_)
      refine W.eq (g2 := F0 m 40 ls [.int (r22.1)]) rfl ?_
      refine lv_if_eq (tgt := 54) hx hb d_Mod_nextLine_40 (by decide) (fun c23 => ?_) (fun c23 => ?_)
      · rw [if_pos c23] at hf
        refine lv_iconst (v := 0) hx hb d_Mod_nextLine_54 (by decide) ?_
        exact s_Mod_nextLine_55 X  v0 v2 0 r22.2 _ _ _ hI (lv_sub hl [0, 2] rfl) hf
      · rw [if_neg c23] at hf
        refine lv_aload_n hx hb d_Mod_nextLine_43 rfl (lv_at hl 0 rfl) ?_
        obtain ⟨u24, eu24, hf⟩ := z_bs hf
        obtain ⟨r25, er25, hf⟩ := z_bs hf
        refine z_callV (As := []) (rest := []) (r := (some (.int r25.1))) (h' := r25.2) X hI eu24 (s_Mod_tellAppended er25) rfl rfl wm_Mod_381 yi_Mod_tellAppended rfl hl.1 rfl (Nat.le_of_ble_eq_true rfl) (by decide) (by decide) d_Mod_nextLine_44 (fun H locs hI => ?_)
        refine W.eq (g2 := F0 m 47 ls [.int (r25.1)]) rfl ?_
        refine lv_if_eq (tgt := 54) hx hb d_Mod_nextLine_47 (by decide) (fun c26 => ?_) (fun c26 => ?_)
        · rw [if_pos c26] at hf
          refine lv_iconst (v := 0) hx hb d_Mod_nextLine_54 (by decide) ?_
          exact s_Mod_nextLine_55 X  v0 v2 0 r25.2 _ _ _ hI (lv_sub hl [0, 2] rfl) hf
        · rw [if_neg c26] at hf
          refine lv_iconst (v := 1) hx hb d_Mod_nextLine_50 (by decide) ?_
          refine lv_goto (tgt := 55) hx hb d_Mod_nextLine_51 (by decide) ?_
          exact s_Mod_nextLine_55 X  v0 v2 1 r25.2 _ _ _ hI (lv_sub hl [0, 2] rfl) hf
  · rw [if_pos c3] at hf
    refine lv_aload_n hx hb d_Mod_nextLine_11 rfl (lv_at hl 0 rfl) ?_
    refine lv_iconst (v := 1) hx hb d_Mod_nextLine_12 (by decide) ?_
    obtain ⟨u27, eu27, hf⟩ := z_bs hf
    obtain ⟨r28, er28, hf⟩ := z_bs hf
    refine z_callV (As := [.int 1]) (rest := []) (r := (some (.int r28.1))) (h' := r28.2) X hI eu27 (s_Mod_endCycle er28) rfl rfl wm_Mod_390 yi_Mod_endCycle rfl hl.1 rfl (Nat.le_of_ble_eq_true rfl) (by decide) (by decide) d_Mod_nextLine_13 (fun H locs hI => ?_)
    refine W.eq (g2 := F0 m 16 ls [.int (r28.1)]) rfl ?_
    refine lv_pop hx hb d_Mod_nextLine_16 rfl ?_
    refine lv_aload_n hx hb d_Mod_nextLine_17 rfl (lv_at hl 0 rfl) ?_
    refine lv_iconst (v := 1) hx hb d_Mod_nextLine_18 (by decide) ?_
    obtain ⟨h29, eh29, hf⟩ := z_bs hf
    refine z_putF X hI (k := 76) (ci := 12) (ty0 := t_Mod) eh29 i_Mod t_Mod_ok n_Mod rfl (by decide) wf_Mod_328 rfl rfl rfl d_Mod_nextLine_19 (fun H locs hI => ?_)
    refine lv_iconst (v := 0) hx hb d_Mod_nextLine_22 (by decide) ?_
    cases hf
    exact z_iret X hI d_Mod_nextLine_23
end
