section
variable {p : Program} {l : Launch} {e : Env} {s : State} {m : MethodId} {args : Array Value} {below : List Frame} {meth : Method} {c : Code} {Ts : List Cond} {own : String} {D : va_G} {dA : Nat → ClassId} {B : Nat}
def f_Row_hasRoom (N : Nat) (v0 : Nat) (v1 : Int32) (h : z_H) : Option (Int32 × z_H) :=
  z_b (gR h v0 10 0) fun x1 =>
  z_b (aN h x1) fun x2 =>
  z_b (gI h v0 10 1) fun x3 =>
  if (x2 - x3) < v1 then
  (some (0, h))
  else
  (some (1, h))
set_option maxRecDepth 20000 in
set_option maxHeartbeats 2000000 in
theorem s_Row_hasRoom {l : Launch} {D : va_G} {dA : Nat → ClassId} {B N : Nat} {v0 : Nat} {v1 : Int32} {h h' : z_H} {r : Int32} (hf : f_Row_hasRoom N v0 v1 h = some (r, h')) : z_Met l y_Row_hasRoom prog_12_method_2_code 2 (some .boolean) 0 0 D dA B [.ref v0, .int v1] h (some (.int r)) h' := by
  refine z_of (by decide) (Nat.le_of_ble_eq_true rfl) (fun p e s m below meth c ls X hI hl => ?_)
  have hx := z_hx X
  have hb := z_hb X
  have hl : lv_has ls 2 [(0, .ref v0), (1, .int v1)] := hl
  unfold f_Row_hasRoom at hf
  obtain ⟨locs, hlo⟩ : ∃ z : List Loc, z = [] := ⟨_, rfl⟩
  rw [← hlo] at hI ⊢
  refine lv_iload_n hx hb d_Row_hasRoom_0 rfl (lv_at hl 1 rfl) ?_
  refine lv_aload_n hx hb d_Row_hasRoom_1 rfl (lv_at hl 0 rfl) ?_
  obtain ⟨x1, ex1, hf⟩ := z_bs hf
  refine z_getF X hI (k := 0) (ci := 10) (gR_s ex1) i_Row rfl (by decide) wf_Row_9 d_Row_hasRoom_2 ?_
  obtain ⟨x2, ex2, hf⟩ := z_bs hf
  refine z_alen X hI ex2 d_Row_hasRoom_5 ?_
  refine lv_aload_n hx hb d_Row_hasRoom_6 rfl (lv_at hl 0 rfl) ?_
  obtain ⟨x3, ex3, hf⟩ := z_bs hf
  refine z_getF X hI (k := 1) (ci := 10) (gI_s ex3) i_Row rfl (by decide) wf_Row_15 d_Row_hasRoom_7 ?_
  refine lv_isub hx hb d_Row_hasRoom_10 ?_
  refine lv_icmp_gt (tgt := 18) hx hb d_Row_hasRoom_11 (by decide) (fun c4 => ?_) (fun c4 => ?_)
  · rw [if_pos c4] at hf
    refine lv_iconst (v := 0) hx hb d_Row_hasRoom_18 (by decide) ?_
    cases hf
    exact z_zret X hI (Or.inl rfl) d_Row_hasRoom_19
  · rw [if_neg c4] at hf
    refine lv_iconst (v := 1) hx hb d_Row_hasRoom_14 (by decide) ?_
    refine lv_goto (tgt := 19) hx hb d_Row_hasRoom_15 (by decide) ?_
    cases hf
    exact z_zret X hI (Or.inr rfl) d_Row_hasRoom_19
def f_Row_at (N : Nat) (v0 : Nat) (v1 : Int32) (h : z_H) : Option (Int32 × z_H) :=
  if v1 < 0 then
  (some ((-1), h))
  else
  (z_b (gI h v0 10 1) fun x2 =>
  if x2 ≤ v1 then
  (some ((-1), h))
  else
  (z_b (gR h v0 10 0) fun x4 =>
  z_b (aI h x4 1 v1) fun x5 =>
  some (x5, h)))
set_option maxRecDepth 20000 in
set_option maxHeartbeats 2000000 in
theorem s_Row_at {l : Launch} {D : va_G} {dA : Nat → ClassId} {B N : Nat} {v0 : Nat} {v1 : Int32} {h h' : z_H} {r : Int32} (hf : f_Row_at N v0 v1 h = some (r, h')) : z_Met l y_Row_at prog_12_method_3_code 2 (some .int) 0 0 D dA B [.ref v0, .int v1] h (some (.int r)) h' := by
  refine z_of (by decide) (Nat.le_of_ble_eq_true rfl) (fun p e s m below meth c ls X hI hl => ?_)
  have hx := z_hx X
  have hb := z_hb X
  have hl : lv_has ls 2 [(0, .ref v0), (1, .int v1)] := hl
  unfold f_Row_at at hf
  obtain ⟨locs, hlo⟩ : ∃ z : List Loc, z = [] := ⟨_, rfl⟩
  rw [← hlo] at hI ⊢
  refine lv_iload_n hx hb d_Row_at_0 rfl (lv_at hl 1 rfl) ?_
  refine lv_if_lt (tgt := 21) hx hb d_Row_at_1 (by decide) (fun c1 => ?_) (fun c1 => ?_)
  · rw [if_pos c1] at hf
    refine lv_iconst (v := (-1)) hx hb d_Row_at_21 (by decide) ?_
    cases hf
    exact z_iret X hI d_Row_at_22
  · rw [if_neg c1] at hf
    refine lv_iload_n hx hb d_Row_at_4 rfl (lv_at hl 1 rfl) ?_
    refine lv_aload_n hx hb d_Row_at_5 rfl (lv_at hl 0 rfl) ?_
    obtain ⟨x2, ex2, hf⟩ := z_bs hf
    refine z_getF X hI (k := 1) (ci := 10) (gI_s ex2) i_Row rfl (by decide) wf_Row_15 d_Row_at_6 ?_
    refine lv_icmp_ge (tgt := 21) hx hb d_Row_at_9 (by decide) (fun c3 => ?_) (fun c3 => ?_)
    · rw [if_pos c3] at hf
      refine lv_iconst (v := (-1)) hx hb d_Row_at_21 (by decide) ?_
      cases hf
      exact z_iret X hI d_Row_at_22
    · rw [if_neg c3] at hf
      refine lv_aload_n hx hb d_Row_at_12 rfl (lv_at hl 0 rfl) ?_
      obtain ⟨x4, ex4, hf⟩ := z_bs hf
      refine z_getF X hI (k := 0) (ci := 10) (gR_s ex4) i_Row rfl (by decide) wf_Row_9 d_Row_at_13 ?_
      refine lv_iload_n hx hb d_Row_at_16 rfl (lv_at hl 1 rfl) ?_
      obtain ⟨x5, ex5, hf⟩ := z_bs hf
      refine z_cald X hI ex5 d_Row_at_17 ?_
      refine lv_goto (tgt := 22) hx hb d_Row_at_18 (by decide) ?_
      cases hf
      exact z_iret X hI d_Row_at_22
def f_Row_empty (N : Nat) (v0 : Nat) (h : z_H) : Option z_H :=
  z_b (sF h v0 10 1 (.int 0)) fun h1 =>
  some h1
set_option maxRecDepth 20000 in
set_option maxHeartbeats 2000000 in
theorem s_Row_empty {l : Launch} {D : va_G} {dA : Nat → ClassId} {B N : Nat} {v0 : Nat} {h h' : z_H} (hf : f_Row_empty N v0 h = some h') : z_Met l y_Row_empty prog_12_method_4_code 1 none 0 0 D dA B [.ref v0] h none h' := by
  refine z_of (by decide) (Nat.le_of_ble_eq_true rfl) (fun p e s m below meth c ls X hI hl => ?_)
  have hx := z_hx X
  have hb := z_hb X
  have hl : lv_has ls 1 [(0, .ref v0)] := hl
  unfold f_Row_empty at hf
  obtain ⟨locs, hlo⟩ : ∃ z : List Loc, z = [] := ⟨_, rfl⟩
  rw [← hlo] at hI ⊢
  refine lv_aload_n hx hb d_Row_empty_0 rfl (lv_at hl 0 rfl) ?_
  refine lv_iconst (v := 0) hx hb d_Row_empty_1 (by decide) ?_
  obtain ⟨h1, eh1, hf⟩ := z_bs hf
  refine z_putF X hI (k := 1) (ci := 10) (ty0 := t_Row) eh1 i_Row t_Row_ok n_Row rfl (by decide) wf_Row_15 rfl rfl rfl d_Row_empty_2 (fun H locs hI => ?_)
  cases hf
  exact z_vret X hI d_Row_empty_5
def f_Row_add (N : Nat) (v0 : Nat) (v1 : Int32) (h : z_H) : Option z_H :=
  z_b (gI h v0 10 1) fun x1 =>
  z_b (gR h v0 10 0) fun x2 =>
  z_b (aN h x2) fun x3 =>
  if x3 ≤ x1 then
  (some h)
  else
  (z_b (gR h v0 10 0) fun x5 =>
  z_b (gI h v0 10 1) fun x6 =>
  z_b (uI h x5 1 x6 (vp_nar .char ((Int32.toUInt32 v1 % 65536).toInt32))) fun h7 =>
  z_b (gI h7 v0 10 1) fun x8 =>
  z_b (sF h7 v0 10 1 (.int (x8 + 1))) fun h9 =>
  some h9)
set_option maxRecDepth 20000 in
set_option maxHeartbeats 2000000 in
theorem s_Row_add {l : Launch} {D : va_G} {dA : Nat → ClassId} {B N : Nat} {v0 : Nat} {v1 : Int32} {h h' : z_H} (hf : f_Row_add N v0 v1 h = some h') : z_Met l y_Row_add prog_12_method_5_code 2 none 0 0 D dA B [.ref v0, .int v1] h none h' := by
  refine z_of (by decide) (Nat.le_of_ble_eq_true rfl) (fun p e s m below meth c ls X hI hl => ?_)
  have hx := z_hx X
  have hb := z_hb X
  have hl : lv_has ls 2 [(0, .ref v0), (1, .int v1)] := hl
  unfold f_Row_add at hf
  obtain ⟨locs, hlo⟩ : ∃ z : List Loc, z = [] := ⟨_, rfl⟩
  rw [← hlo] at hI ⊢
  refine lv_aload_n hx hb d_Row_add_0 rfl (lv_at hl 0 rfl) ?_
  obtain ⟨x1, ex1, hf⟩ := z_bs hf
  refine z_getF X hI (k := 1) (ci := 10) (gI_s ex1) i_Row rfl (by decide) wf_Row_15 d_Row_add_1 ?_
  refine lv_aload_n hx hb d_Row_add_4 rfl (lv_at hl 0 rfl) ?_
  obtain ⟨x2, ex2, hf⟩ := z_bs hf
  refine z_getF X hI (k := 0) (ci := 10) (gR_s ex2) i_Row rfl (by decide) wf_Row_9 d_Row_add_5 ?_
  obtain ⟨x3, ex3, hf⟩ := z_bs hf
  refine z_alen X hI ex3 d_Row_add_8 ?_
  refine lv_icmp_ge (tgt := 33) hx hb d_Row_add_9 (by decide) (fun c4 => ?_) (fun c4 => ?_)
  · rw [if_pos c4] at hf
    cases hf
    exact z_vret X hI d_Row_add_33
  · rw [if_neg c4] at hf
    refine lv_aload_n hx hb d_Row_add_12 rfl (lv_at hl 0 rfl) ?_
    obtain ⟨x5, ex5, hf⟩ := z_bs hf
    refine z_getF X hI (k := 0) (ci := 10) (gR_s ex5) i_Row rfl (by decide) wf_Row_9 d_Row_add_13 ?_
    refine lv_aload_n hx hb d_Row_add_16 rfl (lv_at hl 0 rfl) ?_
    obtain ⟨x6, ex6, hf⟩ := z_bs hf
    refine z_getF X hI (k := 1) (ci := 10) (gI_s ex6) i_Row rfl (by decide) wf_Row_15 d_Row_add_17 ?_
    refine lv_iload_n hx hb d_Row_add_20 rfl (lv_at hl 1 rfl) ?_
    refine lv_i2c hx hb d_Row_add_21 rfl ?_
    obtain ⟨h7, eh7, hf⟩ := z_bs hf
    refine z_cast X hI eh7 d_Row_add_22 (fun H locs hI => ?_)
    refine lv_aload_n hx hb d_Row_add_23 rfl (lv_at hl 0 rfl) ?_
    refine lv_dup hx hb d_Row_add_24 rfl ?_
    obtain ⟨x8, ex8, hf⟩ := z_bs hf
    refine z_getF X hI (k := 1) (ci := 10) (gI_s ex8) i_Row rfl (by decide) wf_Row_15 d_Row_add_25 ?_
    refine lv_iconst (v := 1) hx hb d_Row_add_28 (by decide) ?_
    refine lv_iadd hx hb d_Row_add_29 ?_
    obtain ⟨h9, eh9, hf⟩ := z_bs hf
    refine z_putF X hI (k := 1) (ci := 10) (ty0 := t_Row) eh9 i_Row t_Row_ok n_Row rfl (by decide) wf_Row_15 rfl rfl rfl d_Row_add_30 (fun H locs hI => ?_)
    cases hf
    exact z_vret X hI d_Row_add_33
def f_Row_addPart_3 (N : Nat)  : Nat → Nat → Nat → Int32 → Int32 → z_H → Option z_H
  | 0, _, _, _, _, _ => none
  | n + 1, v0, v1, v3, v4, h =>
    if v3 ≤ v4 then
    (some h)
    else
    (z_b (gI h v1 10 1) fun x2 =>
    if x2 ≤ v4 then
    (some h)
    else
    (z_b (gI h v0 10 1) fun x4 =>
    z_b (gR h v0 10 0) fun x5 =>
    z_b (aN h x5) fun x6 =>
    if x6 ≤ x4 then
    (some h)
    else
    (z_b (gR h v0 10 0) fun x8 =>
    z_b (gI h v0 10 1) fun x9 =>
    z_b (gR h v1 10 0) fun x10 =>
    z_b (aI h x10 1 v4) fun x11 =>
    z_b (uI h x8 1 x9 (vp_nar .char x11)) fun h12 =>
    z_b (gI h12 v0 10 1) fun x13 =>
    z_b (sF h12 v0 10 1 (.int (x13 + 1))) fun h14 =>
    z_b (some (v4 + 1)) fun x15 =>
    (f_Row_addPart_3 N  n) v0 v1 v3 x15 h14)))
set_option maxRecDepth 20000 in
set_option maxHeartbeats 2000000 in
theorem s_Row_addPart_3 (X : z_X p s m args meth c prog_12_method_6_code 5 none Ts "StreamForge$Row" D dA B) {N : Nat} {h' : z_H}   : ∀ n : Nat, ∀ (v0 : Nat) (v1 : Nat) (v3 : Int32) (v4 : Int32) (h : z_H) (H : Heap) (locs : List Loc) (ls : Array Slot), z_I D dA B h s.heap H locs → lv_has ls 5 [(0, .ref v0), (1, .ref v1), (3, .int v3), (4, .int v4)] → f_Row_addPart_3 N  n v0 v1 v3 v4 h = some h' → W p l e (z_rm 0 0) s m args below meth c H locs 0 0 (MQ below (z_Q D dA B none h') args s 0 0 (fun q => B ≤ q)) (F0 m 3 ls []) := by
  have hx := z_hx X
  have hb := z_hb X
  intro n
  induction n with
  | zero => intro v0 v1 v3 v4 h H locs ls hI hl hf; rw [f_Row_addPart_3] at hf; cases hf
  | succ n ih =>
    intro v0 v1 v3 v4 h H locs ls hI hl hf
    rw [f_Row_addPart_3] at hf
    refine lv_iload hx hb d_Row_addPart_3 (lv_at hl 3 rfl) ?_
    refine lv_iload_n hx hb d_Row_addPart_5 rfl (lv_at hl 2 rfl) ?_
    refine lv_icmp_ge (tgt := 62) hx hb d_Row_addPart_6 (by decide) (fun c1 => ?_) (fun c1 => ?_)
    · rw [if_pos c1] at hf
      cases hf
      exact z_vret X hI d_Row_addPart_62
    · rw [if_neg c1] at hf
      refine lv_iload hx hb d_Row_addPart_9 (lv_at hl 3 rfl) ?_
      refine lv_aload_n hx hb d_Row_addPart_11 rfl (lv_at hl 1 rfl) ?_
      obtain ⟨x2, ex2, hf⟩ := z_bs hf
      refine z_getF X hI (k := 1) (ci := 10) (gI_s ex2) i_Row rfl (by decide) wf_Row_15 d_Row_addPart_12 ?_
      refine lv_icmp_ge (tgt := 62) hx hb d_Row_addPart_15 (by decide) (fun c3 => ?_) (fun c3 => ?_)
      · rw [if_pos c3] at hf
        cases hf
        exact z_vret X hI d_Row_addPart_62
      · rw [if_neg c3] at hf
        refine lv_aload_n hx hb d_Row_addPart_18 rfl (lv_at hl 0 rfl) ?_
        obtain ⟨x4, ex4, hf⟩ := z_bs hf
        refine z_getF X hI (k := 1) (ci := 10) (gI_s ex4) i_Row rfl (by decide) wf_Row_15 d_Row_addPart_19 ?_
        refine lv_aload_n hx hb d_Row_addPart_22 rfl (lv_at hl 0 rfl) ?_
        obtain ⟨x5, ex5, hf⟩ := z_bs hf
        refine z_getF X hI (k := 0) (ci := 10) (gR_s ex5) i_Row rfl (by decide) wf_Row_9 d_Row_addPart_23 ?_
        obtain ⟨x6, ex6, hf⟩ := z_bs hf
        refine z_alen X hI ex6 d_Row_addPart_26 ?_
        refine lv_icmp_ge (tgt := 62) hx hb d_Row_addPart_27 (by decide) (fun c7 => ?_) (fun c7 => ?_)
        · rw [if_pos c7] at hf
          cases hf
          exact z_vret X hI d_Row_addPart_62
        · rw [if_neg c7] at hf
          refine lv_aload_n hx hb d_Row_addPart_30 rfl (lv_at hl 0 rfl) ?_
          obtain ⟨x8, ex8, hf⟩ := z_bs hf
          refine z_getF X hI (k := 0) (ci := 10) (gR_s ex8) i_Row rfl (by decide) wf_Row_9 d_Row_addPart_31 ?_
          refine lv_aload_n hx hb d_Row_addPart_34 rfl (lv_at hl 0 rfl) ?_
          obtain ⟨x9, ex9, hf⟩ := z_bs hf
          refine z_getF X hI (k := 1) (ci := 10) (gI_s ex9) i_Row rfl (by decide) wf_Row_15 d_Row_addPart_35 ?_
          refine lv_aload_n hx hb d_Row_addPart_38 rfl (lv_at hl 1 rfl) ?_
          obtain ⟨x10, ex10, hf⟩ := z_bs hf
          refine z_getF X hI (k := 0) (ci := 10) (gR_s ex10) i_Row rfl (by decide) wf_Row_9 d_Row_addPart_39 ?_
          refine lv_iload hx hb d_Row_addPart_42 (lv_at hl 3 rfl) ?_
          obtain ⟨x11, ex11, hf⟩ := z_bs hf
          refine z_cald X hI ex11 d_Row_addPart_44 ?_
          obtain ⟨h12, eh12, hf⟩ := z_bs hf
          refine z_cast X hI eh12 d_Row_addPart_45 (fun H locs hI => ?_)
          refine lv_aload_n hx hb d_Row_addPart_46 rfl (lv_at hl 0 rfl) ?_
          refine lv_dup hx hb d_Row_addPart_47 rfl ?_
          obtain ⟨x13, ex13, hf⟩ := z_bs hf
          refine z_getF X hI (k := 1) (ci := 10) (gI_s ex13) i_Row rfl (by decide) wf_Row_15 d_Row_addPart_48 ?_
          refine lv_iconst (v := 1) hx hb d_Row_addPart_51 (by decide) ?_
          refine lv_iadd hx hb d_Row_addPart_52 ?_
          obtain ⟨h14, eh14, hf⟩ := z_bs hf
          refine z_putF X hI (k := 1) (ci := 10) (ty0 := t_Row) eh14 i_Row t_Row_ok n_Row rfl (by decide) wf_Row_15 rfl rfl rfl d_Row_addPart_53 (fun H locs hI => ?_)
          obtain ⟨x15, ex15, hf⟩ := z_bs hf
          refine lv_iinc (v := x15) (lv' := [(4, .int x15), (0, .ref v0), (1, .ref v1), (3, .int v3)]) hx hb d_Row_addPart_56 hl (k := 3) rfl (by rw [← Option.some.inj ex15]; rfl) (by decide) rfl (fun ls hl => ?_)
          refine lv_goto (tgt := 3) hx hb d_Row_addPart_59 (by decide) ?_
          exact ih v0 v1 v3 x15 h14 _ _ _ hI (lv_sub hl [1, 2, 3, 0] rfl) hf
def f_Row_addPart (N : Nat) (v0 : Nat) (v1 : Nat) (v2 : Int32) (v3 : Int32) (h : z_H) : Option z_H :=
  f_Row_addPart_3 N N v0 v1 v3 v2 h
set_option maxRecDepth 20000 in
set_option maxHeartbeats 2000000 in
theorem s_Row_addPart {l : Launch} {D : va_G} {dA : Nat → ClassId} {B N : Nat} {v0 : Nat} {v1 : Nat} {v2 : Int32} {v3 : Int32} {h h' : z_H} (hf : f_Row_addPart N v0 v1 v2 v3 h = some h') : z_Met l y_Row_addPart prog_12_method_6_code 5 none 0 0 D dA B [.ref v0, .ref v1, .int v2, .int v3] h none h' := by
  refine z_of (by decide) (Nat.le_of_ble_eq_true rfl) (fun p e s m below meth c ls X hI hl => ?_)
  have hx := z_hx X
  have hb := z_hb X
  have hl : lv_has ls 5 [(0, .ref v0), (1, .ref v1), (2, .int v2), (3, .int v3)] := hl
  unfold f_Row_addPart at hf
  obtain ⟨locs, hlo⟩ : ∃ z : List Loc, z = [] := ⟨_, rfl⟩
  rw [← hlo] at hI ⊢
  refine lv_iload_n hx hb d_Row_addPart_0 rfl (lv_at hl 2 rfl) ?_
  refine lv_istore (lv' := [(4, .int v2), (0, .ref v0), (1, .ref v1), (2, .int v2), (3, .int v3)]) hx hb d_Row_addPart_1 hl (by decide) rfl (fun ls hl => ?_)
  exact s_Row_addPart_3 X  N v0 v1 v3 v2 h _ _ _ hI (lv_sub hl [1, 2, 4, 0] rfl) hf
def f_Row_dropFirst_2 (N : Nat)  : Nat → Nat → Int32 → Int32 → z_H → Option z_H
  | 0, _, _, _, _ => none
  | n + 1, v0, v1, v2, h =>
    z_b (gI h v0 10 1) fun x1 =>
    if x1 ≤ v2 then
    (z_b (gI h v0 10 1) fun x3 =>
    z_b (sF h v0 10 1 (.int (x3 - v1))) fun h4 =>
    some h4)
    else
    (z_b (gR h v0 10 0) fun x5 =>
    z_b (gR h v0 10 0) fun x6 =>
    z_b (aI h x6 1 v2) fun x7 =>
    z_b (uI h x5 1 (v2 - v1) (vp_nar .char x7)) fun h8 =>
    z_b (some (v2 + 1)) fun x9 =>
    (f_Row_dropFirst_2 N  n) v0 v1 x9 h8)
set_option maxRecDepth 20000 in
set_option maxHeartbeats 2000000 in
theorem s_Row_dropFirst_2 (X : z_X p s m args meth c prog_12_method_7_code 3 none Ts "StreamForge$Row" D dA B) {N : Nat} {h' : z_H}   : ∀ n : Nat, ∀ (v0 : Nat) (v1 : Int32) (v2 : Int32) (h : z_H) (H : Heap) (locs : List Loc) (ls : Array Slot), z_I D dA B h s.heap H locs → lv_has ls 3 [(0, .ref v0), (1, .int v1), (2, .int v2)] → f_Row_dropFirst_2 N  n v0 v1 v2 h = some h' → W p l e (z_rm 0 0) s m args below meth c H locs 0 0 (MQ below (z_Q D dA B none h') args s 0 0 (fun q => B ≤ q)) (F0 m 2 ls []) := by
  have hx := z_hx X
  have hb := z_hb X
  intro n
  induction n with
  | zero => intro v0 v1 v2 h H locs ls hI hl hf; rw [f_Row_dropFirst_2] at hf; cases hf
  | succ n ih =>
    intro v0 v1 v2 h H locs ls hI hl hf
    rw [f_Row_dropFirst_2] at hf
    refine lv_iload_n hx hb d_Row_dropFirst_2 rfl (lv_at hl 2 rfl) ?_
    refine lv_aload_n hx hb d_Row_dropFirst_3 rfl (lv_at hl 0 rfl) ?_
    obtain ⟨x1, ex1, hf⟩ := z_bs hf
    refine z_getF X hI (k := 1) (ci := 10) (gI_s ex1) i_Row rfl (by decide) wf_Row_15 d_Row_dropFirst_4 ?_
    refine lv_icmp_ge (tgt := 30) hx hb d_Row_dropFirst_7 (by decide) (fun c2 => ?_) (fun c2 => ?_)
    · rw [if_pos c2] at hf
      refine lv_aload_n hx hb d_Row_dropFirst_30 rfl (lv_at hl 0 rfl) ?_
      refine lv_dup hx hb d_Row_dropFirst_31 rfl ?_
      obtain ⟨x3, ex3, hf⟩ := z_bs hf
      refine z_getF X hI (k := 1) (ci := 10) (gI_s ex3) i_Row rfl (by decide) wf_Row_15 d_Row_dropFirst_32 ?_
      refine lv_iload_n hx hb d_Row_dropFirst_35 rfl (lv_at hl 1 rfl) ?_
      refine lv_isub hx hb d_Row_dropFirst_36 ?_
      obtain ⟨h4, eh4, hf⟩ := z_bs hf
      refine z_putF X hI (k := 1) (ci := 10) (ty0 := t_Row) eh4 i_Row t_Row_ok n_Row rfl (by decide) wf_Row_15 rfl rfl rfl d_Row_dropFirst_37 (fun H locs hI => ?_)
      cases hf
      exact z_vret X hI d_Row_dropFirst_40
    · rw [if_neg c2] at hf
      refine lv_aload_n hx hb d_Row_dropFirst_10 rfl (lv_at hl 0 rfl) ?_
      obtain ⟨x5, ex5, hf⟩ := z_bs hf
      refine z_getF X hI (k := 0) (ci := 10) (gR_s ex5) i_Row rfl (by decide) wf_Row_9 d_Row_dropFirst_11 ?_
      refine lv_iload_n hx hb d_Row_dropFirst_14 rfl (lv_at hl 2 rfl) ?_
      refine lv_iload_n hx hb d_Row_dropFirst_15 rfl (lv_at hl 1 rfl) ?_
      refine lv_isub hx hb d_Row_dropFirst_16 ?_
      refine lv_aload_n hx hb d_Row_dropFirst_17 rfl (lv_at hl 0 rfl) ?_
      obtain ⟨x6, ex6, hf⟩ := z_bs hf
      refine z_getF X hI (k := 0) (ci := 10) (gR_s ex6) i_Row rfl (by decide) wf_Row_9 d_Row_dropFirst_18 ?_
      refine lv_iload_n hx hb d_Row_dropFirst_21 rfl (lv_at hl 2 rfl) ?_
      obtain ⟨x7, ex7, hf⟩ := z_bs hf
      refine z_cald X hI ex7 d_Row_dropFirst_22 ?_
      obtain ⟨h8, eh8, hf⟩ := z_bs hf
      refine z_cast X hI eh8 d_Row_dropFirst_23 (fun H locs hI => ?_)
      obtain ⟨x9, ex9, hf⟩ := z_bs hf
      refine lv_iinc (v := x9) (lv' := [(2, .int x9), (0, .ref v0), (1, .int v1)]) hx hb d_Row_dropFirst_24 hl (k := 2) rfl (by rw [← Option.some.inj ex9]; rfl) (by decide) rfl (fun ls hl => ?_)
      refine lv_goto (tgt := 2) hx hb d_Row_dropFirst_27 (by decide) ?_
      exact ih v0 v1 x9 h8 _ _ _ hI (lv_sub hl [1, 2, 0] rfl) hf
def f_Row_dropFirst (N : Nat) (v0 : Nat) (v1 : Int32) (h : z_H) : Option z_H :=
  f_Row_dropFirst_2 N N v0 v1 v1 h
set_option maxRecDepth 20000 in
set_option maxHeartbeats 2000000 in
theorem s_Row_dropFirst {l : Launch} {D : va_G} {dA : Nat → ClassId} {B N : Nat} {v0 : Nat} {v1 : Int32} {h h' : z_H} (hf : f_Row_dropFirst N v0 v1 h = some h') : z_Met l y_Row_dropFirst prog_12_method_7_code 3 none 0 0 D dA B [.ref v0, .int v1] h none h' := by
  refine z_of (by decide) (Nat.le_of_ble_eq_true rfl) (fun p e s m below meth c ls X hI hl => ?_)
  have hx := z_hx X
  have hb := z_hb X
  have hl : lv_has ls 3 [(0, .ref v0), (1, .int v1)] := hl
  unfold f_Row_dropFirst at hf
  obtain ⟨locs, hlo⟩ : ∃ z : List Loc, z = [] := ⟨_, rfl⟩
  rw [← hlo] at hI ⊢
  refine lv_iload_n hx hb d_Row_dropFirst_0 rfl (lv_at hl 1 rfl) ?_
  refine lv_istore_n (lv' := [(2, .int v1), (0, .ref v0), (1, .int v1)]) hx hb d_Row_dropFirst_1 rfl hl (by decide) rfl (fun ls hl => ?_)
  exact s_Row_dropFirst_2 X  N v0 v1 v1 h _ _ _ hI (lv_sub hl [1, 2, 0] rfl) hf
def f_Row_newlineFrom_2 (N : Nat)  : Nat → Nat → Int32 → z_H → Option (Int32 × z_H)
  | 0, _, _, _ => none
  | n + 1, v0, v2, h =>
    z_b (gI h v0 10 1) fun x1 =>
    if x1 ≤ v2 then
    (some (v2, h))
    else
    (z_b (gR h v0 10 0) fun x3 =>
    z_b (aI h x3 1 v2) fun x4 =>
    if x4 = 10 then
    (some (v2, h))
    else
    (z_b (some (v2 + 1)) fun x6 =>
    (f_Row_newlineFrom_2 N  n) v0 x6 h))
set_option maxRecDepth 20000 in
set_option maxHeartbeats 2000000 in
theorem s_Row_newlineFrom_2 (X : z_X p s m args meth c prog_12_method_8_code 3 (some .int) Ts "StreamForge$Row" D dA B) {N : Nat} {r : Int32} {h' : z_H}   : ∀ n : Nat, ∀ (v0 : Nat) (v2 : Int32) (h : z_H) (H : Heap) (locs : List Loc) (ls : Array Slot), z_I D dA B h s.heap H locs → lv_has ls 3 [(0, .ref v0), (2, .int v2)] → f_Row_newlineFrom_2 N  n v0 v2 h = some (r, h') → W p l e (z_rm 0 0) s m args below meth c H locs 0 0 (MQ below (z_Q D dA B (some (.int r)) h') args s 0 0 (fun q => B ≤ q)) (F0 m 2 ls []) := by
  have hx := z_hx X
  have hb := z_hb X
  intro n
  induction n with
  | zero => intro v0 v2 h H locs ls hI hl hf; rw [f_Row_newlineFrom_2] at hf; cases hf
  | succ n ih =>
    intro v0 v2 h H locs ls hI hl hf
    rw [f_Row_newlineFrom_2] at hf
    refine lv_iload_n hx hb d_Row_newlineFrom_2 rfl (lv_at hl 1 rfl) ?_
    refine lv_aload_n hx hb d_Row_newlineFrom_3 rfl (lv_at hl 0 rfl) ?_
    obtain ⟨x1, ex1, hf⟩ := z_bs hf
    refine z_getF X hI (k := 1) (ci := 10) (gI_s ex1) i_Row rfl (by decide) wf_Row_15 d_Row_newlineFrom_4 ?_
    refine lv_icmp_ge (tgt := 27) hx hb d_Row_newlineFrom_7 (by decide) (fun c2 => ?_) (fun c2 => ?_)
    · rw [if_pos c2] at hf
      refine lv_iload_n hx hb d_Row_newlineFrom_27 rfl (lv_at hl 1 rfl) ?_
      cases hf
      exact z_iret X hI d_Row_newlineFrom_28
    · rw [if_neg c2] at hf
      refine lv_aload_n hx hb d_Row_newlineFrom_10 rfl (lv_at hl 0 rfl) ?_
      obtain ⟨x3, ex3, hf⟩ := z_bs hf
      refine z_getF X hI (k := 0) (ci := 10) (gR_s ex3) i_Row rfl (by decide) wf_Row_9 d_Row_newlineFrom_11 ?_
      refine lv_iload_n hx hb d_Row_newlineFrom_14 rfl (lv_at hl 1 rfl) ?_
      obtain ⟨x4, ex4, hf⟩ := z_bs hf
      refine z_cald X hI ex4 d_Row_newlineFrom_15 ?_
      refine lv_bipush (v := 10) hx hb d_Row_newlineFrom_16 (by decide) ?_
      refine lv_icmp_eq (tgt := 27) hx hb d_Row_newlineFrom_18 (by decide) (fun c5 => ?_) (fun c5 => ?_)
      · rw [if_pos c5] at hf
        refine lv_iload_n hx hb d_Row_newlineFrom_27 rfl (lv_at hl 1 rfl) ?_
        cases hf
        exact z_iret X hI d_Row_newlineFrom_28
      · rw [if_neg c5] at hf
        obtain ⟨x6, ex6, hf⟩ := z_bs hf
        refine lv_iinc (v := x6) (lv' := [(2, .int x6), (0, .ref v0)]) hx hb d_Row_newlineFrom_21 hl (k := 1) rfl (by rw [← Option.some.inj ex6]; rfl) (by decide) rfl (fun ls hl => ?_)
        refine lv_goto (tgt := 2) hx hb d_Row_newlineFrom_24 (by decide) ?_
        exact ih v0 x6 h _ _ _ hI (lv_sub hl [1, 0] rfl) hf
def f_Row_newlineFrom (N : Nat) (v0 : Nat) (v1 : Int32) (h : z_H) : Option (Int32 × z_H) :=
  f_Row_newlineFrom_2 N N v0 v1 h
set_option maxRecDepth 20000 in
set_option maxHeartbeats 2000000 in
theorem s_Row_newlineFrom {l : Launch} {D : va_G} {dA : Nat → ClassId} {B N : Nat} {v0 : Nat} {v1 : Int32} {h h' : z_H} {r : Int32} (hf : f_Row_newlineFrom N v0 v1 h = some (r, h')) : z_Met l y_Row_newlineFrom prog_12_method_8_code 3 (some .int) 0 0 D dA B [.ref v0, .int v1] h (some (.int r)) h' := by
  refine z_of (by decide) (Nat.le_of_ble_eq_true rfl) (fun p e s m below meth c ls X hI hl => ?_)
  have hx := z_hx X
  have hb := z_hb X
  have hl : lv_has ls 3 [(0, .ref v0), (1, .int v1)] := hl
  unfold f_Row_newlineFrom at hf
  obtain ⟨locs, hlo⟩ : ∃ z : List Loc, z = [] := ⟨_, rfl⟩
  rw [← hlo] at hI ⊢
  refine lv_iload_n hx hb d_Row_newlineFrom_0 rfl (lv_at hl 1 rfl) ?_
  refine lv_istore_n (lv' := [(2, .int v1), (0, .ref v0), (1, .int v1)]) hx hb d_Row_newlineFrom_1 rfl hl (by decide) rfl (fun ls hl => ?_)
  exact s_Row_newlineFrom_2 X  N v0 v1 h _ _ _ hI (lv_sub hl [1, 0] rfl) hf
end
