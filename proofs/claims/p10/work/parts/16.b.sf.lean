section
variable {p : Program} {l : Launch} {e : Env} {s : State} {m : MethodId} {args : Array Value} {below : List Frame} {meth : Method} {c : Code} {Ts : List Cond} {own : String} {D : va_G} {dA : Nat → ClassId} {B : Nat}
def f_SF_byteOf (N : Nat) (v0 : Int64) (v2 : Int32) (h : z_H) : Option (Int32 × z_H) :=
  some ((Int64.toInt32 ((Int64.toUInt64 v0 >>> (Int64.toUInt64 (Int32.toInt64 (56 - (8 * v2))) &&& Int64.toUInt64 63)).toInt64)) &&& 255, h)
set_option maxRecDepth 20000 in
set_option maxHeartbeats 2000000 in
theorem s_SF_byteOf {l : Launch} {D : va_G} {dA : Nat → ClassId} {B N : Nat} {v0 : Int64} {v2 : Int32} {h h' : z_H} {r : Int32} (hf : f_SF_byteOf N v0 v2 h = some (r, h')) : z_Met l y_SF_byteOf prog_1_method_13_code 3 (some .int) 0 0 D dA B [.long v0, .int v2] h (some (.int r)) h' := by
  refine z_of (by decide) (Nat.le_of_ble_eq_true rfl) (fun p e s m below meth c ls X hI hl => ?_)
  have hx := z_hx X
  have hb := z_hb X
  have hl : lv_has ls 3 [(0, .long v0), (2, .int v2)] := hl
  unfold f_SF_byteOf at hf
  obtain ⟨locs, hlo⟩ : ∃ z : List Loc, z = [] := ⟨_, rfl⟩
  rw [← hlo] at hI ⊢
  refine lv_lload_n hx hb d_SF_byteOf_0 rfl (lv_at hl 0 rfl) ?_
  refine lv_bipush (v := 56) hx hb d_SF_byteOf_1 (by decide) ?_
  refine lv_bipush (v := 8) hx hb d_SF_byteOf_3 (by decide) ?_
  refine lv_iload_n hx hb d_SF_byteOf_5 rfl (lv_at hl 1 rfl) ?_
  refine lv_imul hx hb d_SF_byteOf_6 ?_
  refine lv_isub hx hb d_SF_byteOf_7 ?_
  refine lv_lushr hx hb d_SF_byteOf_8 rfl ?_
  refine lv_l2i hx hb d_SF_byteOf_9 rfl ?_
  refine lv_sipush (v := 255) hx hb d_SF_byteOf_10 (by decide) ?_
  refine lv_iand hx hb d_SF_byteOf_13 ?_
  cases hf
  exact z_iret X hI d_SF_byteOf_14
def f_SF_isText_34 (N : Nat) (k2 : Int64 → Int32 → Int32 → z_H → Option (Int32 × z_H)) (v0 : Int64) (v2 : Int32) (v3 : Int32) (v4 : Int32) (s0 : Int32) (h : z_H) : Option (Int32 × z_H) :=
  if v4 = 0 then
  (z_b (some (v3 + 1)) fun x2 =>
  k2 v0 v2 x2 h)
  else
  (if s0 = 0 then
  (if v2 = 0 then
  (some (0, h))
  else
  (if v4 = 10 then
  (z_b (some (v3 + 1)) fun x7 =>
  k2 v0 v2 x7 h)
  else
  (some (0, h))))
  else
  (z_b (some (v3 + 1)) fun x4 =>
  k2 v0 v2 x4 h))
set_option maxRecDepth 20000 in
set_option maxHeartbeats 2000000 in
theorem s_SF_isText_34 (X : z_X p s m args meth c prog_1_method_14_code 6 (some .boolean) Ts "StreamForge" D dA B) {N : Nat} {r : Int32} {h' : z_H} {k2 : Int64 → Int32 → Int32 → z_H → Option (Int32 × z_H)} (hk2 : ∀ (v0 : Int64) (v2 : Int32) (v3 : Int32) (h : z_H) (H : Heap) (locs : List Loc) (ls : Array Slot), z_I D dA B h s.heap H locs → lv_has ls 6 [(0, .long v0), (2, .int v2), (3, .int v3)] → k2 v0 v2 v3 h = some (r, h') → W p l e (z_rm 1 22) s m args below meth c H locs 0 0 (MQ below (z_Q D dA B (some (.int r)) h') args s 0 0 (fun q => B ≤ q)) (F0 m 2 ls [])) : ∀ (v0 : Int64) (v2 : Int32) (v3 : Int32) (v4 : Int32) (s0 : Int32) (h : z_H) (H : Heap) (locs : List Loc) (ls : Array Slot), z_I D dA B h s.heap H locs → lv_has ls 6 [(0, .long v0), (2, .int v2), (3, .int v3), (4, .int v4)] → f_SF_isText_34 N k2 v0 v2 v3 v4 s0 h = some (r, h') → W p l e (z_rm 1 22) s m args below meth c H locs 0 0 (MQ below (z_Q D dA B (some (.int r)) h') args s 0 0 (fun q => B ≤ q)) (F0 m 34 ls [.int s0]) := by
  have hx := z_hx X
  have hb := z_hb X
  intro v0 v2 v3 v4 s0 h H locs ls hI hl hf
  unfold f_SF_isText_34 at hf
  refine lv_istore (lv' := [(5, .int s0), (0, .long v0), (2, .int v2), (3, .int v3), (4, .int v4)]) hx hb d_SF_isText_34 hl (by decide) rfl (fun ls hl => ?_)
  refine lv_iload hx hb d_SF_isText_36 (lv_at hl 4 rfl) ?_
  refine lv_if_eq (tgt := 59) hx hb d_SF_isText_38 (by decide) (fun c1 => ?_) (fun c1 => ?_)
  · rw [if_pos c1] at hf
    obtain ⟨x2, ex2, hf⟩ := z_bs hf
    refine lv_iinc (v := x2) (lv' := [(3, .int x2), (5, .int s0), (0, .long v0), (2, .int v2), (4, .int v4)]) hx hb d_SF_isText_59 hl (k := 3) rfl (by rw [← Option.some.inj ex2]; rfl) (by decide) rfl (fun ls hl => ?_)
    refine lv_goto (tgt := 2) hx hb d_SF_isText_62 (by decide) ?_
    exact hk2 v0 v2 x2 h _ _ _ hI (lv_sub hl [2, 3, 0] rfl) hf
  · rw [if_neg c1] at hf
    refine lv_iload hx hb d_SF_isText_41 (lv_at hl 0 rfl) ?_
    refine lv_if_ne (tgt := 59) hx hb d_SF_isText_43 (by decide) (fun c3 => ?_) (fun c3 => ?_)
    · rw [if_neg c3] at hf
      obtain ⟨x4, ex4, hf⟩ := z_bs hf
      refine lv_iinc (v := x4) (lv' := [(3, .int x4), (5, .int s0), (0, .long v0), (2, .int v2), (4, .int v4)]) hx hb d_SF_isText_59 hl (k := 3) rfl (by rw [← Option.some.inj ex4]; rfl) (by decide) rfl (fun ls hl => ?_)
      refine lv_goto (tgt := 2) hx hb d_SF_isText_62 (by decide) ?_
      exact hk2 v0 v2 x4 h _ _ _ hI (lv_sub hl [2, 3, 0] rfl) hf
    · rw [if_pos c3] at hf
      refine lv_iload_n hx hb d_SF_isText_46 rfl (lv_at hl 2 rfl) ?_
      refine lv_if_eq (tgt := 57) hx hb d_SF_isText_47 (by decide) (fun c5 => ?_) (fun c5 => ?_)
      · rw [if_pos c5] at hf
        refine lv_iconst (v := 0) hx hb d_SF_isText_57 (by decide) ?_
        cases hf
        exact z_zret X hI (Or.inl rfl) d_SF_isText_58
      · rw [if_neg c5] at hf
        refine lv_iload hx hb d_SF_isText_50 (lv_at hl 4 rfl) ?_
        refine lv_bipush (v := 10) hx hb d_SF_isText_52 (by decide) ?_
        refine lv_icmp_eq (tgt := 59) hx hb d_SF_isText_54 (by decide) (fun c6 => ?_) (fun c6 => ?_)
        · rw [if_pos c6] at hf
          obtain ⟨x7, ex7, hf⟩ := z_bs hf
          refine lv_iinc (v := x7) (lv' := [(3, .int x7), (5, .int s0), (0, .long v0), (2, .int v2), (4, .int v4)]) hx hb d_SF_isText_59 hl (k := 3) rfl (by rw [← Option.some.inj ex7]; rfl) (by decide) rfl (fun ls hl => ?_)
          refine lv_goto (tgt := 2) hx hb d_SF_isText_62 (by decide) ?_
          exact hk2 v0 v2 x7 h _ _ _ hI (lv_sub hl [2, 3, 0] rfl) hf
        · rw [if_neg c6] at hf
          refine lv_iconst (v := 0) hx hb d_SF_isText_57 (by decide) ?_
          cases hf
          exact z_zret X hI (Or.inl rfl) d_SF_isText_58
def f_SF_isText_2 (N : Nat)  : Nat → Int64 → Int32 → Int32 → z_H → Option (Int32 × z_H)
  | 0, _, _, _, _ => none
  | n + 1, v0, v2, v3, h =>
    if 8 ≤ v3 then
    (some (1, h))
    else
    (z_b (f_SF_byteOf N v0 v3 h) fun r2 =>
    z_b (some (r2.1)) fun x3 =>
    if x3 < 32 then
    (f_SF_isText_34 N (f_SF_isText_2 N  n) v0 v2 v3 x3 0 r2.2)
    else
    (if 126 < x3 then
    (f_SF_isText_34 N (f_SF_isText_2 N  n) v0 v2 v3 x3 0 r2.2)
    else
    (f_SF_isText_34 N (f_SF_isText_2 N  n) v0 v2 v3 x3 1 r2.2)))
set_option maxRecDepth 20000 in
set_option maxHeartbeats 2000000 in
theorem s_SF_isText_2 (X : z_X p s m args meth c prog_1_method_14_code 6 (some .boolean) Ts "StreamForge" D dA B) {N : Nat} {r : Int32} {h' : z_H}   : ∀ n : Nat, ∀ (v0 : Int64) (v2 : Int32) (v3 : Int32) (h : z_H) (H : Heap) (locs : List Loc) (ls : Array Slot), z_I D dA B h s.heap H locs → lv_has ls 6 [(0, .long v0), (2, .int v2), (3, .int v3)] → f_SF_isText_2 N  n v0 v2 v3 h = some (r, h') → W p l e (z_rm 1 22) s m args below meth c H locs 0 0 (MQ below (z_Q D dA B (some (.int r)) h') args s 0 0 (fun q => B ≤ q)) (F0 m 2 ls []) := by
  have hx := z_hx X
  have hb := z_hb X
  intro n
  induction n with
  | zero => intro v0 v2 v3 h H locs ls hI hl hf; rw [f_SF_isText_2] at hf; cases hf
  | succ n ih =>
    intro v0 v2 v3 h H locs ls hI hl hf
    rw [f_SF_isText_2] at hf
    refine lv_iload_n hx hb d_SF_isText_2 rfl (lv_at hl 2 rfl) ?_
    refine lv_bipush (v := 8) hx hb d_SF_isText_3 (by decide) ?_
    refine lv_icmp_ge (tgt := 65) hx hb d_SF_isText_5 (by decide) (fun c1 => ?_) (fun c1 => ?_)
    · rw [if_pos c1] at hf
      refine lv_iconst (v := 1) hx hb d_SF_isText_65 (by decide) ?_
      cases hf
      exact z_zret X hI (Or.inr rfl) d_SF_isText_66
    · rw [if_neg c1] at hf
      refine lv_lload_n hx hb d_SF_isText_8 rfl (lv_at hl 0 rfl) ?_
      refine lv_iload_n hx hb d_SF_isText_9 rfl (lv_at hl 2 rfl) ?_
      obtain ⟨r2, er2, hf⟩ := z_bs hf
      refine z_callS (As := [.long v0, .int v3]) (rest := []) (r := (some (.int r2.1))) (h' := r2.2) X hI (s_SF_byteOf er2) rfl wm_SF_158 yi_SF_byteOf rfl hl.1 rfl (Nat.le_of_ble_eq_true rfl) (by decide) (by decide) d_SF_isText_10 (fun H locs hI => ?_)
      refine W.eq (g2 := F0 m 13 ls [.int (r2.1)]) rfl ?_
      obtain ⟨x3, ex3, hf⟩ := z_bs hf
      refine z_topi (Option.some.inj ex3) ?_
      refine lv_istore (lv' := [(4, .int x3), (0, .long v0), (2, .int v2), (3, .int v3)]) hx hb d_SF_isText_13 hl (by decide) rfl (fun ls hl => ?_)
      refine lv_iload hx hb d_SF_isText_15 (lv_at hl 0 rfl) ?_
      refine lv_bipush (v := 32) hx hb d_SF_isText_17 (by decide) ?_
      refine lv_icmp_lt (tgt := 33) hx hb d_SF_isText_19 (by decide) (fun c4 => ?_) (fun c4 => ?_)
      · rw [if_pos c4] at hf
        refine lv_iconst (v := 0) hx hb d_SF_isText_33 (by decide) ?_
        exact s_SF_isText_34 X ih v0 v2 v3 x3 0 r2.2 _ _ _ hI (lv_sub hl [1, 2, 3, 0] rfl) hf
      · rw [if_neg c4] at hf
        refine lv_iload hx hb d_SF_isText_22 (lv_at hl 0 rfl) ?_
        refine lv_bipush (v := 126) hx hb d_SF_isText_24 (by decide) ?_
        refine lv_icmp_gt (tgt := 33) hx hb d_SF_isText_26 (by decide) (fun c5 => ?_) (fun c5 => ?_)
        · rw [if_pos c5] at hf
          refine lv_iconst (v := 0) hx hb d_SF_isText_33 (by decide) ?_
          exact s_SF_isText_34 X ih v0 v2 v3 x3 0 r2.2 _ _ _ hI (lv_sub hl [1, 2, 3, 0] rfl) hf
        · rw [if_neg c5] at hf
          refine lv_iconst (v := 1) hx hb d_SF_isText_29 (by decide) ?_
          refine lv_goto (tgt := 34) hx hb d_SF_isText_30 (by decide) ?_
          exact s_SF_isText_34 X ih v0 v2 v3 x3 1 r2.2 _ _ _ hI (lv_sub hl [1, 2, 3, 0] rfl) hf
def f_SF_isText (N : Nat) (v0 : Int64) (v2 : Int32) (h : z_H) : Option (Int32 × z_H) :=
  f_SF_isText_2 N N v0 v2 0 h
set_option maxRecDepth 20000 in
set_option maxHeartbeats 2000000 in
theorem s_SF_isText {l : Launch} {D : va_G} {dA : Nat → ClassId} {B N : Nat} {v0 : Int64} {v2 : Int32} {h h' : z_H} {r : Int32} (hf : f_SF_isText N v0 v2 h = some (r, h')) : z_Met l y_SF_isText prog_1_method_14_code 6 (some .boolean) 1 22 D dA B [.long v0, .int v2] h (some (.int r)) h' := by
  refine z_of (by decide) (Nat.le_of_ble_eq_true rfl) (fun p e s m below meth c ls X hI hl => ?_)
  have hx := z_hx X
  have hb := z_hb X
  have hl : lv_has ls 6 [(0, .long v0), (2, .int v2)] := hl
  unfold f_SF_isText at hf
  obtain ⟨locs, hlo⟩ : ∃ z : List Loc, z = [] := ⟨_, rfl⟩
  rw [← hlo] at hI ⊢
  refine lv_iconst (v := 0) hx hb d_SF_isText_0 (by decide) ?_
  refine lv_istore_n (lv' := [(3, .int 0), (0, .long v0), (2, .int v2)]) hx hb d_SF_isText_1 rfl hl (by decide) rfl (fun ls hl => ?_)
  exact s_SF_isText_2 X  N v0 v2 0 h _ _ _ hI (lv_sub hl [1, 2, 0] rfl) hf
def f_SF_textLength_4 (N : Nat)  : Nat → Int64 → Int32 → Int32 → z_H → Option (Int32 × z_H)
  | 0, _, _, _, _ => none
  | n + 1, v0, v2, v3, h =>
    if 8 ≤ v3 then
    (some (v2, h))
    else
    (z_b (f_SF_byteOf N v0 v3 h) fun r2 =>
    if (r2.1) = 0 then
    (z_b (some (v3 + 1)) fun x4 =>
    (f_SF_textLength_4 N  n) v0 v2 x4 r2.2)
    else
    (z_b (some (v2 + 1)) fun x5 =>
    z_b (some (v3 + 1)) fun x6 =>
    (f_SF_textLength_4 N  n) v0 x5 x6 r2.2))
set_option maxRecDepth 20000 in
set_option maxHeartbeats 2000000 in
theorem s_SF_textLength_4 (X : z_X p s m args meth c prog_1_method_15_code 4 (some .int) Ts "StreamForge" D dA B) {N : Nat} {r : Int32} {h' : z_H}   : ∀ n : Nat, ∀ (v0 : Int64) (v2 : Int32) (v3 : Int32) (h : z_H) (H : Heap) (locs : List Loc) (ls : Array Slot), z_I D dA B h s.heap H locs → lv_has ls 4 [(0, .long v0), (2, .int v2), (3, .int v3)] → f_SF_textLength_4 N  n v0 v2 v3 h = some (r, h') → W p l e (z_rm 1 22) s m args below meth c H locs 0 0 (MQ below (z_Q D dA B (some (.int r)) h') args s 0 0 (fun q => B ≤ q)) (F0 m 4 ls []) := by
  have hx := z_hx X
  have hb := z_hb X
  intro n
  induction n with
  | zero => intro v0 v2 v3 h H locs ls hI hl hf; rw [f_SF_textLength_4] at hf; cases hf
  | succ n ih =>
    intro v0 v2 v3 h H locs ls hI hl hf
    rw [f_SF_textLength_4] at hf
    refine lv_iload_n hx hb d_SF_textLength_4 rfl (lv_at hl 2 rfl) ?_
    refine lv_bipush (v := 8) hx hb d_SF_textLength_5 (by decide) ?_
    refine lv_icmp_ge (tgt := 27) hx hb d_SF_textLength_7 (by decide) (fun c1 => ?_) (fun c1 => ?_)
    · rw [if_pos c1] at hf
      refine lv_iload_n hx hb d_SF_textLength_27 rfl (lv_at hl 1 rfl) ?_
      cases hf
      exact z_iret X hI d_SF_textLength_28
    · rw [if_neg c1] at hf
      refine lv_lload_n hx hb d_SF_textLength_10 rfl (lv_at hl 0 rfl) ?_
      refine lv_iload_n hx hb d_SF_textLength_11 rfl (lv_at hl 2 rfl) ?_
      obtain ⟨r2, er2, hf⟩ := z_bs hf
      refine z_callS (As := [.long v0, .int v3]) (rest := []) (r := (some (.int r2.1))) (h' := r2.2) X hI (s_SF_byteOf er2) rfl wm_SF_158 yi_SF_byteOf rfl hl.1 rfl (Nat.le_of_ble_eq_true rfl) (by decide) (by decide) d_SF_textLength_12 (fun H locs hI => ?_)
      refine W.eq (g2 := F0 m 15 ls [.int (r2.1)]) rfl ?_
      refine lv_if_eq (tgt := 21) hx hb d_SF_textLength_15 (by decide) (fun c3 => ?_) (fun c3 => ?_)
      · rw [if_pos c3] at hf
        obtain ⟨x4, ex4, hf⟩ := z_bs hf
        refine lv_iinc (v := x4) (lv' := [(3, .int x4), (0, .long v0), (2, .int v2)]) hx hb d_SF_textLength_21 hl (k := 2) rfl (by rw [← Option.some.inj ex4]; rfl) (by decide) rfl (fun ls hl => ?_)
        refine lv_goto (tgt := 4) hx hb d_SF_textLength_24 (by decide) ?_
        exact ih v0 v2 x4 r2.2 _ _ _ hI (lv_sub hl [1, 2, 0] rfl) hf
      · rw [if_neg c3] at hf
        obtain ⟨x5, ex5, hf⟩ := z_bs hf
        refine lv_iinc (v := x5) (lv' := [(2, .int x5), (0, .long v0), (3, .int v3)]) hx hb d_SF_textLength_18 hl (k := 1) rfl (by rw [← Option.some.inj ex5]; rfl) (by decide) rfl (fun ls hl => ?_)
        obtain ⟨x6, ex6, hf⟩ := z_bs hf
        refine lv_iinc (v := x6) (lv' := [(3, .int x6), (2, .int x5), (0, .long v0)]) hx hb d_SF_textLength_21 hl (k := 2) rfl (by rw [← Option.some.inj ex6]; rfl) (by decide) rfl (fun ls hl => ?_)
        refine lv_goto (tgt := 4) hx hb d_SF_textLength_24 (by decide) ?_
        exact ih v0 x5 x6 r2.2 _ _ _ hI (lv_sub hl [2, 1, 0] rfl) hf
def f_SF_textLength (N : Nat) (v0 : Int64) (h : z_H) : Option (Int32 × z_H) :=
  f_SF_textLength_4 N N v0 0 0 h
set_option maxRecDepth 20000 in
set_option maxHeartbeats 2000000 in
theorem s_SF_textLength {l : Launch} {D : va_G} {dA : Nat → ClassId} {B N : Nat} {v0 : Int64} {h h' : z_H} {r : Int32} (hf : f_SF_textLength N v0 h = some (r, h')) : z_Met l y_SF_textLength prog_1_method_15_code 4 (some .int) 1 22 D dA B [.long v0] h (some (.int r)) h' := by
  refine z_of (by decide) (Nat.le_of_ble_eq_true rfl) (fun p e s m below meth c ls X hI hl => ?_)
  have hx := z_hx X
  have hb := z_hb X
  have hl : lv_has ls 4 [(0, .long v0)] := hl
  unfold f_SF_textLength at hf
  obtain ⟨locs, hlo⟩ : ∃ z : List Loc, z = [] := ⟨_, rfl⟩
  rw [← hlo] at hI ⊢
  refine lv_iconst (v := 0) hx hb d_SF_textLength_0 (by decide) ?_
  refine lv_istore_n (lv' := [(2, .int 0), (0, .long v0)]) hx hb d_SF_textLength_1 rfl hl (by decide) rfl (fun ls hl => ?_)
  refine lv_iconst (v := 0) hx hb d_SF_textLength_2 (by decide) ?_
  refine lv_istore_n (lv' := [(3, .int 0), (2, .int 0), (0, .long v0)]) hx hb d_SF_textLength_3 rfl hl (by decide) rfl (fun ls hl => ?_)
  exact s_SF_textLength_4 X  N v0 0 0 h _ _ _ hI (lv_sub hl [2, 1, 0] rfl) hf
def f_SF_addText_2 (N : Nat)  : Nat → Nat → Int64 → Int32 → z_H → Option z_H
  | 0, _, _, _, _ => none
  | n + 1, v0, v1, v3, h =>
    if 8 ≤ v3 then
    (some h)
    else
    (z_b (f_SF_byteOf N v1 v3 h) fun r2 =>
    z_b (some (r2.1)) fun x3 =>
    if x3 = 0 then
    (z_b (some (v3 + 1)) fun x5 =>
    (f_SF_addText_2 N  n) v0 v1 x5 r2.2)
    else
    (z_b (gO r2.2 v0 10) fun u6 =>
    z_b (f_Row_add N v0 x3 r2.2) fun r7 =>
    z_b (some (v3 + 1)) fun x8 =>
    (f_SF_addText_2 N  n) v0 v1 x8 r7))
set_option maxRecDepth 20000 in
set_option maxHeartbeats 2000000 in
theorem s_SF_addText_2 (X : z_X p s m args meth c prog_1_method_16_code 5 none Ts "StreamForge" D dA B) {N : Nat} {h' : z_H}   : ∀ n : Nat, ∀ (v0 : Nat) (v1 : Int64) (v3 : Int32) (h : z_H) (H : Heap) (locs : List Loc) (ls : Array Slot), z_I D dA B h s.heap H locs → lv_has ls 5 [(0, .ref v0), (1, .long v1), (3, .int v3)] → f_SF_addText_2 N  n v0 v1 v3 h = some h' → W p l e (z_rm 1 22) s m args below meth c H locs 0 0 (MQ below (z_Q D dA B none h') args s 0 0 (fun q => B ≤ q)) (F0 m 2 ls []) := by
  have hx := z_hx X
  have hb := z_hb X
  intro n
  induction n with
  | zero => intro v0 v1 v3 h H locs ls hI hl hf; rw [f_SF_addText_2] at hf; cases hf
  | succ n ih =>
    intro v0 v1 v3 h H locs ls hI hl hf
    rw [f_SF_addText_2] at hf
    refine lv_iload_n hx hb d_SF_addText_2 rfl (lv_at hl 2 rfl) ?_
    refine lv_bipush (v := 8) hx hb d_SF_addText_3 (by decide) ?_
    refine lv_icmp_ge (tgt := 32) hx hb d_SF_addText_5 (by decide) (fun c1 => ?_) (fun c1 => ?_)
    · rw [if_pos c1] at hf
      cases hf
      exact z_vret X hI d_SF_addText_32
    · rw [if_neg c1] at hf
      refine lv_lload_n hx hb d_SF_addText_8 rfl (lv_at hl 1 rfl) ?_
      refine lv_iload_n hx hb d_SF_addText_9 rfl (lv_at hl 2 rfl) ?_
      obtain ⟨r2, er2, hf⟩ := z_bs hf
      refine z_callS (As := [.long v1, .int v3]) (rest := []) (r := (some (.int r2.1))) (h' := r2.2) X hI (s_SF_byteOf er2) rfl wm_SF_158 yi_SF_byteOf rfl hl.1 rfl (Nat.le_of_ble_eq_true rfl) (by decide) (by decide) d_SF_addText_10 (fun H locs hI => ?_)
      refine W.eq (g2 := F0 m 13 ls [.int (r2.1)]) rfl ?_
      obtain ⟨x3, ex3, hf⟩ := z_bs hf
      refine z_topi (Option.some.inj ex3) ?_
      refine lv_istore (lv' := [(4, .int x3), (0, .ref v0), (1, .long v1), (3, .int v3)]) hx hb d_SF_addText_13 hl (by decide) rfl (fun ls hl => ?_)
      refine lv_iload hx hb d_SF_addText_15 (lv_at hl 0 rfl) ?_
      refine lv_if_eq (tgt := 26) hx hb d_SF_addText_17 (by decide) (fun c4 => ?_) (fun c4 => ?_)
      · rw [if_pos c4] at hf
        obtain ⟨x5, ex5, hf⟩ := z_bs hf
        refine lv_iinc (v := x5) (lv' := [(3, .int x5), (4, .int x3), (0, .ref v0), (1, .long v1)]) hx hb d_SF_addText_26 hl (k := 3) rfl (by rw [← Option.some.inj ex5]; rfl) (by decide) rfl (fun ls hl => ?_)
        refine lv_goto (tgt := 2) hx hb d_SF_addText_29 (by decide) ?_
        exact ih v0 v1 x5 r2.2 _ _ _ hI (lv_sub hl [2, 3, 0] rfl) hf
      · rw [if_neg c4] at hf
        refine lv_aload_n hx hb d_SF_addText_20 rfl (lv_at hl 1 rfl) ?_
        refine lv_iload hx hb d_SF_addText_21 (lv_at hl 0 rfl) ?_
        obtain ⟨u6, eu6, hf⟩ := z_bs hf
        obtain ⟨r7, er7, hf⟩ := z_bs hf
        refine z_callV (As := [.int x3]) (rest := []) (r := none) (h' := r7) X hI eu6 (s_Row_add er7) rfl rfl wm_SF_162 yi_Row_add rfl hl.1 rfl (Nat.le_of_ble_eq_true rfl) (by decide) (by decide) d_SF_addText_23 (fun H locs hI => ?_)
        refine W.eq (g2 := F0 m 26 ls []) rfl ?_
        obtain ⟨x8, ex8, hf⟩ := z_bs hf
        refine lv_iinc (v := x8) (lv' := [(3, .int x8), (4, .int x3), (0, .ref v0), (1, .long v1)]) hx hb d_SF_addText_26 hl (k := 3) rfl (by rw [← Option.some.inj ex8]; rfl) (by decide) rfl (fun ls hl => ?_)
        refine lv_goto (tgt := 2) hx hb d_SF_addText_29 (by decide) ?_
        exact ih v0 v1 x8 r7 _ _ _ hI (lv_sub hl [2, 3, 0] rfl) hf
def f_SF_addText (N : Nat) (v0 : Nat) (v1 : Int64) (h : z_H) : Option z_H :=
  f_SF_addText_2 N N v0 v1 0 h
set_option maxRecDepth 20000 in
set_option maxHeartbeats 2000000 in
theorem s_SF_addText {l : Launch} {D : va_G} {dA : Nat → ClassId} {B N : Nat} {v0 : Nat} {v1 : Int64} {h h' : z_H} (hf : f_SF_addText N v0 v1 h = some h') : z_Met l y_SF_addText prog_1_method_16_code 5 none 1 22 D dA B [.ref v0, .long v1] h none h' := by
  refine z_of (by decide) (Nat.le_of_ble_eq_true rfl) (fun p e s m below meth c ls X hI hl => ?_)
  have hx := z_hx X
  have hb := z_hb X
  have hl : lv_has ls 5 [(0, .ref v0), (1, .long v1)] := hl
  unfold f_SF_addText at hf
  obtain ⟨locs, hlo⟩ : ∃ z : List Loc, z = [] := ⟨_, rfl⟩
  rw [← hlo] at hI ⊢
  refine lv_iconst (v := 0) hx hb d_SF_addText_0 (by decide) ?_
  refine lv_istore_n (lv' := [(3, .int 0), (0, .ref v0), (1, .long v1)]) hx hb d_SF_addText_1 rfl hl (by decide) rfl (fun ls hl => ?_)
  exact s_SF_addText_2 X  N v0 v1 0 h _ _ _ hI (lv_sub hl [1, 2, 0] rfl) hf
def f_SF_where (N : Nat) (v0 : Nat) (h : z_H) : Option (Int32 × z_H) :=
  z_b (gI h v0 11 9) fun x1 =>
  some (x1, h)
set_option maxRecDepth 20000 in
set_option maxHeartbeats 2000000 in
theorem s_SF_where {l : Launch} {D : va_G} {dA : Nat → ClassId} {B N : Nat} {v0 : Nat} {h h' : z_H} {r : Int32} (hf : f_SF_where N v0 h = some (r, h')) : z_Met l y_SF_where prog_1_method_5_code 1 (some .int) 0 0 D dA B [.ref v0] h (some (.int r)) h' := by
  refine z_of (by decide) (Nat.le_of_ble_eq_true rfl) (fun p e s m below meth c ls X hI hl => ?_)
  have hx := z_hx X
  have hb := z_hb X
  have hl : lv_has ls 1 [(0, .ref v0)] := hl
  unfold f_SF_where at hf
  obtain ⟨locs, hlo⟩ : ∃ z : List Loc, z = [] := ⟨_, rfl⟩
  rw [← hlo] at hI ⊢
  refine lv_aload_n hx hb d_SF_where_0 rfl (lv_at hl 0 rfl) ?_
  obtain ⟨x1, ex1, hf⟩ := z_bs hf
  refine z_getF X hI (k := 9) (ci := 11) (gI_s ex1) i_SF rfl (by decide) wf_SF_53 d_SF_where_1 ?_
  cases hf
  exact z_iret X hI d_SF_where_4
end
