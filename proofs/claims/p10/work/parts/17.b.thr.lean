section
variable {p : Program} {l : Launch} {e : Env} {s : State} {m : MethodId} {args : Array Value} {below : List Frame} {meth : Method} {c : Code} {Ts : List Cond} {own : String} {D : va_G} {dA : Nat → ClassId} {B : Nat}
def f_Ed_tell (N : Nat) (v0 : Nat) (v1 : Nat) (v2 : Int32) (v3 : Int32) (h : z_H) : Option ((Unit ⊕ String) × z_H) :=
  z_b (gR h v0 3 0) fun x1 =>
  z_b (gO h x1 10) fun u2 =>
  z_b (f_Row_hasRoom N x1 ((v3 - v2) + 1) h) fun r3 =>
  if (r3.1) = 0 then
  (some (.inr xE3, r3.2))
  else
  (z_b (gR r3.2 v0 3 0) fun x5 =>
  z_b (gO r3.2 x5 10) fun u6 =>
  z_b (f_Row_addPart N x5 v1 v2 v3 r3.2) fun r7 =>
  z_b (gR r7 v0 3 0) fun x8 =>
  z_b (gO r7 x8 10) fun u9 =>
  z_b (f_Row_add N x8 10 r7) fun r10 =>
  some (.inl (), r10))
set_option maxRecDepth 20000 in
set_option maxHeartbeats 2000000 in
theorem s_Ed_tell {l : Launch} (hlt : l.stackTraces = false) {D : va_G} {dA : Nat → ClassId} {B N : Nat} {v0 : Nat} {v1 : Nat} {v2 : Int32} {v3 : Int32} {h h' : z_H} {r : Unit ⊕ String} (hf : f_Ed_tell N v0 v1 v2 v3 h = some (r, h')) : zx_Met l y_Ed_tell prog_5_method_9_code 4 none 6 96 D dA B [.ref v0, .ref v1, .int v2, .int v3] h (zx_rv r) h' := by
  refine zx_of (by decide) (Nat.le_of_ble_eq_true rfl) (fun p e s m below meth c ls X hno hSt hI hl => ?_)
  have hx := z_hx X
  have hb := z_hb X
  have hl : lv_has ls 4 [(0, .ref v0), (1, .ref v1), (2, .int v2), (3, .int v3)] := hl
  unfold f_Ed_tell at hf
  obtain ⟨locs, hlo⟩ : ∃ z : List Loc, z = [] := ⟨_, rfl⟩
  rw [← hlo] at hI ⊢
  refine lv_aload_n hx hb d_Ed_tell_0 rfl (lv_at hl 0 rfl) ?_
  obtain ⟨x1, ex1, hf⟩ := z_bs hf
  refine z_getF X hI (k := 0) (ci := 3) (gR_s ex1) i_Ed rfl (by decide) wf_Ed_14 d_Ed_tell_1 ?_
  refine lv_iload_n hx hb d_Ed_tell_4 rfl (lv_at hl 3 rfl) ?_
  refine lv_iload_n hx hb d_Ed_tell_5 rfl (lv_at hl 2 rfl) ?_
  refine lv_isub hx hb d_Ed_tell_6 ?_
  refine lv_iconst (v := 1) hx hb d_Ed_tell_7 (by decide) ?_
  refine lv_iadd hx hb d_Ed_tell_8 ?_
  obtain ⟨u2, eu2, hf⟩ := z_bs hf
  obtain ⟨r3, er3, hf⟩ := z_bs hf
  refine z_callV (As := [.int ((v3 - v2) + 1)]) (rest := []) (r := (some (.int r3.1))) (h' := r3.2) X hI eu2 (s_Row_hasRoom er3) rfl rfl wm_Ed_136 yi_Row_hasRoom rfl hl.1 rfl (Nat.le_of_ble_eq_true rfl) (by decide) (by decide) d_Ed_tell_9 (fun H locs hI => ?_)
  refine W.eq (g2 := F0 m 12 ls [.int (r3.1)]) rfl ?_
  refine lv_if_ne (tgt := 23) hx hb d_Ed_tell_12 (by decide) (fun c4 => ?_) (fun c4 => ?_)
  · rw [if_neg c4] at hf
    refine lv_aload_n hx hb d_Ed_tell_23 rfl (lv_at hl 0 rfl) ?_
    obtain ⟨x5, ex5, hf⟩ := z_bs hf
    refine z_getF X hI (k := 0) (ci := 3) (gR_s ex5) i_Ed rfl (by decide) wf_Ed_14 d_Ed_tell_24 ?_
    refine lv_aload_n hx hb d_Ed_tell_27 rfl (lv_at hl 1 rfl) ?_
    refine lv_iload_n hx hb d_Ed_tell_28 rfl (lv_at hl 2 rfl) ?_
    refine lv_iload_n hx hb d_Ed_tell_29 rfl (lv_at hl 3 rfl) ?_
    obtain ⟨u6, eu6, hf⟩ := z_bs hf
    obtain ⟨r7, er7, hf⟩ := z_bs hf
    refine z_callV (As := [.ref v1, .int v2, .int v3]) (rest := []) (r := none) (h' := r7) X hI eu6 (s_Row_addPart er7) rfl rfl wm_Ed_126 yi_Row_addPart rfl hl.1 rfl (Nat.le_of_ble_eq_true rfl) (by decide) (by decide) d_Ed_tell_30 (fun H locs hI => ?_)
    refine W.eq (g2 := F0 m 33 ls []) rfl ?_
    refine lv_aload_n hx hb d_Ed_tell_33 rfl (lv_at hl 0 rfl) ?_
    obtain ⟨x8, ex8, hf⟩ := z_bs hf
    refine z_getF X hI (k := 0) (ci := 3) (gR_s ex8) i_Ed rfl (by decide) wf_Ed_14 d_Ed_tell_34 ?_
    refine lv_bipush (v := 10) hx hb d_Ed_tell_37 (by decide) ?_
    obtain ⟨u9, eu9, hf⟩ := z_bs hf
    obtain ⟨r10, er10, hf⟩ := z_bs hf
    refine z_callV (As := [.int 10]) (rest := []) (r := none) (h' := r10) X hI eu9 (s_Row_add er10) rfl rfl wm_Ed_143 yi_Row_add rfl hl.1 rfl (Nat.le_of_ble_eq_true rfl) (by decide) (by decide) d_Ed_tell_39 (fun H locs hI => ?_)
    refine W.eq (g2 := F0 m 42 ls []) rfl ?_
    cases hf
    exact zx_ret (z_vret X hI d_Ed_tell_42)
  · rw [if_pos c4] at hf
    cases hf
    exact zx_throw X hlt hno hSt hI xf3 wl_Ed_140 wi_x3 at_Ed_142 hl.1 d_Ed_tell_15 d_Ed_tell_18 d_Ed_tell_19 d_Ed_tell_22 ⟨by decide, Nat.le_of_ble_eq_true rfl, by decide, by decide⟩
def f_Ed_tellAppended_4 (N : Nat)  : Nat → Nat → Int32 → Int32 → z_H → Option ((Unit ⊕ String) × z_H)
  | 0, _, _, _, _ => none
  | n + 1, v0, v1, v2, h =>
    z_b (gR h v0 3 7) fun x1 =>
    z_b (gI h x1 10 1) fun x2 =>
    if x2 ≤ v2 then
    (z_b (gR h v0 3 7) fun x4 =>
    z_b (gO h x4 10) fun u5 =>
    z_b (f_Row_empty N x4 h) fun r6 =>
    some (.inl (), r6))
    else
    (z_b (gR h v0 3 7) fun x7 =>
    z_b (gR h x7 10 0) fun x8 =>
    z_b (aI h x8 1 v2) fun x9 =>
    if x9 = 10 then
    (z_b (gR h v0 3 7) fun x12 =>
    z_b (gO h v0 3) fun u13 =>
    z_b (f_Ed_tell N v0 x12 v1 v2 h) fun r14 =>
    zx_k r14 fun x15 h16 =>
    z_b (some (v2 + 1)) fun x19 =>
    z_b (some (v2 + 1)) fun x20 =>
    (f_Ed_tellAppended_4 N  n) v0 x19 x20 h16)
    else
    (z_b (some (v2 + 1)) fun x11 =>
    (f_Ed_tellAppended_4 N  n) v0 v1 x11 h))
set_option maxRecDepth 20000 in
set_option maxHeartbeats 2000000 in
theorem s_Ed_tellAppended_4 (X : z_X p s m args meth c prog_5_method_10_code 3 none Ts "StreamForge$Editor" D dA B) {N : Nat} {r : Unit ⊕ String} (hlt : l.stackTraces = false) (hno : ∀ x ∈ c.exceptionTable.toList, False) (hSt : z_St B s s.heap) {h' : z_H}   : ∀ n : Nat, ∀ (v0 : Nat) (v1 : Int32) (v2 : Int32) (h : z_H) (H : Heap) (locs : List Loc) (ls : Array Slot), z_I D dA B h s.heap H locs → lv_has ls 3 [(0, .ref v0), (1, .int v1), (2, .int v2)] → f_Ed_tellAppended_4 N  n v0 v1 v2 h = some (r, h') → W p l e (zx_rm 7 119) s m args below meth c H locs 0 0 (zx_MQ below D dA B (zx_rv r) h' args s) (F0 m 4 ls []) := by
  have hx := z_hx X
  have hb := z_hb X
  intro n
  induction n with
  | zero => intro v0 v1 v2 h H locs ls hI hl hf; rw [f_Ed_tellAppended_4] at hf; cases hf
  | succ n ih =>
    intro v0 v1 v2 h H locs ls hI hl hf
    rw [f_Ed_tellAppended_4] at hf
    refine lv_iload_n hx hb d_Ed_tellAppended_4 rfl (lv_at hl 2 rfl) ?_
    refine lv_aload_n hx hb d_Ed_tellAppended_5 rfl (lv_at hl 0 rfl) ?_
    obtain ⟨x1, ex1, hf⟩ := z_bs hf
    refine z_getF X hI (k := 7) (ci := 3) (gR_s ex1) i_Ed rfl (by decide) wf_Ed_26 d_Ed_tellAppended_6 ?_
    obtain ⟨x2, ex2, hf⟩ := z_bs hf
    refine z_getF X hI (k := 1) (ci := 10) (gI_s ex2) i_Row rfl (by decide) wf_Ed_123 d_Ed_tellAppended_9 ?_
    refine lv_icmp_ge (tgt := 49) hx hb d_Ed_tellAppended_12 (by decide) (fun c3 => ?_) (fun c3 => ?_)
    · rw [if_pos c3] at hf
      refine lv_aload_n hx hb d_Ed_tellAppended_49 rfl (lv_at hl 0 rfl) ?_
      obtain ⟨x4, ex4, hf⟩ := z_bs hf
      refine z_getF X hI (k := 7) (ci := 3) (gR_s ex4) i_Ed rfl (by decide) wf_Ed_26 d_Ed_tellAppended_50 ?_
      obtain ⟨u5, eu5, hf⟩ := z_bs hf
      obtain ⟨r6, er6, hf⟩ := z_bs hf
      refine z_callV (As := []) (rest := []) (r := none) (h' := r6) X hI eu5 (s_Row_empty er6) rfl rfl wm_Ed_96 yi_Row_empty rfl hl.1 rfl (Nat.le_of_ble_eq_true rfl) (by decide) (by decide) d_Ed_tellAppended_53 (fun H locs hI => ?_)
      refine W.eq (g2 := F0 m 56 ls []) rfl ?_
      cases hf
      exact zx_ret (z_vret X hI d_Ed_tellAppended_56)
    · rw [if_neg c3] at hf
      refine lv_aload_n hx hb d_Ed_tellAppended_15 rfl (lv_at hl 0 rfl) ?_
      obtain ⟨x7, ex7, hf⟩ := z_bs hf
      refine z_getF X hI (k := 7) (ci := 3) (gR_s ex7) i_Ed rfl (by decide) wf_Ed_26 d_Ed_tellAppended_16 ?_
      obtain ⟨x8, ex8, hf⟩ := z_bs hf
      refine z_getF X hI (k := 0) (ci := 10) (gR_s ex8) i_Row rfl (by decide) wf_Ed_146 d_Ed_tellAppended_19 ?_
      refine lv_iload_n hx hb d_Ed_tellAppended_22 rfl (lv_at hl 2 rfl) ?_
      obtain ⟨x9, ex9, hf⟩ := z_bs hf
      refine z_cald X hI ex9 d_Ed_tellAppended_23 ?_
      refine lv_bipush (v := 10) hx hb d_Ed_tellAppended_24 (by decide) ?_
      refine lv_icmp_ne (tgt := 43) hx hb d_Ed_tellAppended_26 (by decide) (fun c10 => ?_) (fun c10 => ?_)
      · rw [if_neg c10] at hf
        obtain ⟨x11, ex11, hf⟩ := z_bs hf
        refine lv_iinc (v := x11) (lv' := [(2, .int x11), (0, .ref v0), (1, .int v1)]) hx hb d_Ed_tellAppended_43 hl (k := 2) rfl (by rw [← Option.some.inj ex11]; rfl) (by decide) rfl (fun ls hl => ?_)
        refine lv_goto (tgt := 4) hx hb d_Ed_tellAppended_46 (by decide) ?_
        exact ih v0 v1 x11 h _ _ _ hI (lv_sub hl [1, 2, 0] rfl) hf
      · rw [if_pos c10] at hf
        refine lv_aload_n hx hb d_Ed_tellAppended_29 rfl (lv_at hl 0 rfl) ?_
        refine lv_aload_n hx hb d_Ed_tellAppended_30 rfl (lv_at hl 0 rfl) ?_
        obtain ⟨x12, ex12, hf⟩ := z_bs hf
        refine z_getF X hI (k := 7) (ci := 3) (gR_s ex12) i_Ed rfl (by decide) wf_Ed_26 d_Ed_tellAppended_31 ?_
        refine lv_iload_n hx hb d_Ed_tellAppended_34 rfl (lv_at hl 1 rfl) ?_
        refine lv_iload_n hx hb d_Ed_tellAppended_35 rfl (lv_at hl 2 rfl) ?_
        obtain ⟨u13, eu13, hf⟩ := z_bs hf
        obtain ⟨r14, er14, hf⟩ := z_bs hf
        obtain ⟨q17, h16⟩ := r14
        rcases q17 with x15 | E18
        · have hf := zx_kl hf
          refine zx_callV (r := .inl none) (As := [.ref x12, .int v1, .int v2]) (rest := []) (h' := h16) X hSt hI eu13 (s_Ed_tell hlt er14) rfl rfl wm_Ed_130 yi_Ed_tell rfl hl.1 rfl (Nat.le_of_ble_eq_true rfl) (by decide) (by decide) d_Ed_tellAppended_36 (fun v er H locs hI => ?_) (fun E er => by cases er)
          cases er
          refine W.eq (g2 := F0 m 39 ls []) rfl ?_
          refine lv_iload_n hx hb d_Ed_tellAppended_39 rfl (lv_at hl 2 rfl) ?_
          refine lv_iconst (v := 1) hx hb d_Ed_tellAppended_40 (by decide) ?_
          refine lv_iadd hx hb d_Ed_tellAppended_41 ?_
          obtain ⟨x19, ex19, hf⟩ := z_bs hf
          refine z_topi (Option.some.inj ex19) ?_
          refine lv_istore_n (lv' := [(1, .int x19), (0, .ref v0), (2, .int v2)]) hx hb d_Ed_tellAppended_42 rfl hl (by decide) rfl (fun ls hl => ?_)
          obtain ⟨x20, ex20, hf⟩ := z_bs hf
          refine lv_iinc (v := x20) (lv' := [(2, .int x20), (1, .int x19), (0, .ref v0)]) hx hb d_Ed_tellAppended_43 hl (k := 2) rfl (by rw [← Option.some.inj ex20]; rfl) (by decide) rfl (fun ls hl => ?_)
          refine lv_goto (tgt := 4) hx hb d_Ed_tellAppended_46 (by decide) ?_
          exact ih v0 x19 x20 h16 _ _ _ hI (lv_sub hl [2, 1, 0] rfl) hf
        · cases zx_kr hf
          exact zx_callV (r := .inr E18) (As := [.ref x12, .int v1, .int v2]) (rest := []) X hSt hI eu13 (s_Ed_tell hlt er14) rfl rfl wm_Ed_130 yi_Ed_tell rfl hl.1 rfl (Nat.le_of_ble_eq_true rfl) (by decide) (by decide) d_Ed_tellAppended_36 (fun v er => by cases er) (fun E er H locs q ce hI hce hcv hcl => by cases er; exact zx_out X hno hI hce hcv hcl)
def f_Ed_tellAppended (N : Nat) (v0 : Nat) (h : z_H) : Option ((Unit ⊕ String) × z_H) :=
  f_Ed_tellAppended_4 N N v0 0 0 h
set_option maxRecDepth 20000 in
set_option maxHeartbeats 2000000 in
theorem s_Ed_tellAppended {l : Launch} (hlt : l.stackTraces = false) {D : va_G} {dA : Nat → ClassId} {B N : Nat} {v0 : Nat} {h h' : z_H} {r : Unit ⊕ String} (hf : f_Ed_tellAppended N v0 h = some (r, h')) : zx_Met l y_Ed_tellAppended prog_5_method_10_code 3 none 7 119 D dA B [.ref v0] h (zx_rv r) h' := by
  refine zx_of (by decide) (Nat.le_of_ble_eq_true rfl) (fun p e s m below meth c ls X hno hSt hI hl => ?_)
  have hx := z_hx X
  have hb := z_hb X
  have hl : lv_has ls 3 [(0, .ref v0)] := hl
  unfold f_Ed_tellAppended at hf
  obtain ⟨locs, hlo⟩ : ∃ z : List Loc, z = [] := ⟨_, rfl⟩
  rw [← hlo] at hI ⊢
  refine lv_iconst (v := 0) hx hb d_Ed_tellAppended_0 (by decide) ?_
  refine lv_istore_n (lv' := [(1, .int 0), (0, .ref v0)]) hx hb d_Ed_tellAppended_1 rfl hl (by decide) rfl (fun ls hl => ?_)
  refine lv_iconst (v := 0) hx hb d_Ed_tellAppended_2 (by decide) ?_
  refine lv_istore_n (lv' := [(2, .int 0), (1, .int 0), (0, .ref v0)]) hx hb d_Ed_tellAppended_3 rfl hl (by decide) rfl (fun ls hl => ?_)
  exact s_Ed_tellAppended_4 X hlt hno hSt  N v0 0 0 h _ _ _ hI (lv_sub hl [2, 1, 0] rfl) hf
def f_Ed_endCycle_20 (N : Nat)  (v0 : Nat) (h : z_H) : Option ((Unit ⊕ String) × z_H) :=
  z_b (gO h v0 3) fun u1 =>
  z_b (f_Ed_tellAppended N v0 h) fun r2 =>
  zx_k r2 fun x3 h4 =>
  z_b (gO h4 v0 3) fun u7 =>
  z_b (f_Ed_beginLine N v0 h4) fun r8 =>
  some (.inl (), r8)
set_option maxRecDepth 20000 in
set_option maxHeartbeats 2000000 in
theorem s_Ed_endCycle_20 (X : z_X p s m args meth c prog_5_method_7_code 2 none Ts "StreamForge$Editor" D dA B) {N : Nat} {r : Unit ⊕ String} (hlt : l.stackTraces = false) (hno : ∀ x ∈ c.exceptionTable.toList, False) (hSt : z_St B s s.heap) {h' : z_H}   : ∀ (v0 : Nat) (h : z_H) (H : Heap) (locs : List Loc) (ls : Array Slot), z_I D dA B h s.heap H locs → lv_has ls 2 [(0, .ref v0)] → f_Ed_endCycle_20 N  v0 h = some (r, h') → W p l e (zx_rm 8 141) s m args below meth c H locs 0 0 (zx_MQ below D dA B (zx_rv r) h' args s) (F0 m 20 ls []) := by
  have hx := z_hx X
  have hb := z_hb X
  intro v0 h H locs ls hI hl hf
  unfold f_Ed_endCycle_20 at hf
  refine lv_aload_n hx hb d_Ed_endCycle_20 rfl (lv_at hl 0 rfl) ?_
  obtain ⟨u1, eu1, hf⟩ := z_bs hf
  obtain ⟨r2, er2, hf⟩ := z_bs hf
  obtain ⟨q5, h4⟩ := r2
  rcases q5 with x3 | E6
  · have hf := zx_kl hf
    refine zx_callV (r := .inl none) (As := []) (rest := []) (h' := h4) X hSt hI eu1 (s_Ed_tellAppended hlt er2) rfl rfl wm_Ed_133 yi_Ed_tellAppended rfl hl.1 rfl (Nat.le_of_ble_eq_true rfl) (by decide) (by decide) d_Ed_endCycle_21 (fun v er H locs hI => ?_) (fun E er => by cases er)
    cases er
    refine W.eq (g2 := F0 m 24 ls []) rfl ?_
    refine lv_aload_n hx hb d_Ed_endCycle_24 rfl (lv_at hl 0 rfl) ?_
    obtain ⟨u7, eu7, hf⟩ := z_bs hf
    obtain ⟨r8, er8, hf⟩ := z_bs hf
    refine z_callV (As := []) (rest := []) (r := none) (h' := r8) X hI eu7 (s_Ed_beginLine er8) rfl rfl wm_Ed_111 yi_Ed_beginLine rfl hl.1 rfl (Nat.le_of_ble_eq_true rfl) (by decide) (by decide) d_Ed_endCycle_25 (fun H locs hI => ?_)
    refine W.eq (g2 := F0 m 28 ls []) rfl ?_
    cases hf
    exact zx_ret (z_vret X hI d_Ed_endCycle_28)
  · cases zx_kr hf
    exact zx_callV (r := .inr E6) (As := []) (rest := []) X hSt hI eu1 (s_Ed_tellAppended hlt er2) rfl rfl wm_Ed_133 yi_Ed_tellAppended rfl hl.1 rfl (Nat.le_of_ble_eq_true rfl) (by decide) (by decide) d_Ed_endCycle_21 (fun v er => by cases er) (fun E er H locs q ce hI hce hcv hcl => by cases er; exact zx_out X hno hI hce hcv hcl)
def f_Ed_endCycle (N : Nat) (v0 : Nat) (v1 : Int32) (h : z_H) : Option ((Unit ⊕ String) × z_H) :=
  if v1 = 0 then
  (f_Ed_endCycle_20 N v0 h)
  else
  (z_b (gR h v0 3 1) fun x2 =>
  z_b (gR h v0 3 1) fun x3 =>
  z_b (gI h x3 10 1) fun x4 =>
  z_b (gO h v0 3) fun u5 =>
  z_b (f_Ed_tell N v0 x2 0 x4 h) fun r6 =>
  zx_k r6 fun x7 h8 =>
  f_Ed_endCycle_20 N v0 h8)
set_option maxRecDepth 20000 in
set_option maxHeartbeats 2000000 in
theorem s_Ed_endCycle {l : Launch} (hlt : l.stackTraces = false) {D : va_G} {dA : Nat → ClassId} {B N : Nat} {v0 : Nat} {v1 : Int32} {h h' : z_H} {r : Unit ⊕ String} (hf : f_Ed_endCycle N v0 v1 h = some (r, h')) : zx_Met l y_Ed_endCycle prog_5_method_7_code 2 none 8 141 D dA B [.ref v0, .int v1] h (zx_rv r) h' := by
  refine zx_of (by decide) (Nat.le_of_ble_eq_true rfl) (fun p e s m below meth c ls X hno hSt hI hl => ?_)
  have hx := z_hx X
  have hb := z_hb X
  have hl : lv_has ls 2 [(0, .ref v0), (1, .int v1)] := hl
  unfold f_Ed_endCycle at hf
  obtain ⟨locs, hlo⟩ : ∃ z : List Loc, z = [] := ⟨_, rfl⟩
  rw [← hlo] at hI ⊢
  refine lv_iload_n hx hb d_Ed_endCycle_0 rfl (lv_at hl 1 rfl) ?_
  refine lv_if_eq (tgt := 20) hx hb d_Ed_endCycle_1 (by decide) (fun c1 => ?_) (fun c1 => ?_)
  · rw [if_pos c1] at hf
    exact s_Ed_endCycle_20 X hlt hno hSt  v0 h _ _ _ hI (lv_sub hl [0] rfl) hf
  · rw [if_neg c1] at hf
    refine lv_aload_n hx hb d_Ed_endCycle_4 rfl (lv_at hl 0 rfl) ?_
    refine lv_aload_n hx hb d_Ed_endCycle_5 rfl (lv_at hl 0 rfl) ?_
    obtain ⟨x2, ex2, hf⟩ := z_bs hf
    refine z_getF X hI (k := 1) (ci := 3) (gR_s ex2) i_Ed rfl (by decide) wf_Ed_20 d_Ed_endCycle_6 ?_
    refine lv_iconst (v := 0) hx hb d_Ed_endCycle_9 (by decide) ?_
    refine lv_aload_n hx hb d_Ed_endCycle_10 rfl (lv_at hl 0 rfl) ?_
    obtain ⟨x3, ex3, hf⟩ := z_bs hf
    refine z_getF X hI (k := 1) (ci := 3) (gR_s ex3) i_Ed rfl (by decide) wf_Ed_20 d_Ed_endCycle_11 ?_
    obtain ⟨x4, ex4, hf⟩ := z_bs hf
    refine z_getF X hI (k := 1) (ci := 10) (gI_s ex4) i_Row rfl (by decide) wf_Ed_123 d_Ed_endCycle_14 ?_
    obtain ⟨u5, eu5, hf⟩ := z_bs hf
    obtain ⟨r6, er6, hf⟩ := z_bs hf
    obtain ⟨q9, h8⟩ := r6
    rcases q9 with x7 | E10
    · have hf := zx_kl hf
      refine zx_callV (r := .inl none) (As := [.ref x2, .int 0, .int x4]) (rest := []) (h' := h8) X hSt hI eu5 (s_Ed_tell hlt er6) rfl rfl wm_Ed_130 yi_Ed_tell rfl hl.1 rfl (Nat.le_of_ble_eq_true rfl) (by decide) (by decide) d_Ed_endCycle_17 (fun v er H locs hI => ?_) (fun E er => by cases er)
      cases er
      refine W.eq (g2 := F0 m 20 ls []) rfl ?_
      exact s_Ed_endCycle_20 X hlt hno hSt  v0 h8 _ _ _ hI (lv_sub hl [0] rfl) hf
    · cases zx_kr hf
      exact zx_callV (r := .inr E10) (As := [.ref x2, .int 0, .int x4]) (rest := []) X hSt hI eu5 (s_Ed_tell hlt er6) rfl rfl wm_Ed_130 yi_Ed_tell rfl hl.1 rfl (Nat.le_of_ble_eq_true rfl) (by decide) (by decide) d_Ed_endCycle_17 (fun v er => by cases er) (fun E er H locs q ce hI hce hcv hcl => by cases er; exact zx_out X hno hI hce hcv hcl)
def f_Ed_draftPart (N : Nat) (v0 : Nat) (v1 : Int32) (v2 : Int32) (h : z_H) : Option ((Unit ⊕ String) × z_H) :=
  z_b (gR h v0 3 9) fun x1 =>
  z_b (gO h x1 10) fun u2 =>
  z_b (f_Row_hasRoom N x1 (v2 - v1) h) fun r3 =>
  if (r3.1) = 0 then
  (some (.inr xE3, r3.2))
  else
  (z_b (gR r3.2 v0 3 9) fun x5 =>
  z_b (gR r3.2 v0 3 1) fun x6 =>
  z_b (gO r3.2 x5 10) fun u7 =>
  z_b (f_Row_addPart N x5 x6 v1 v2 r3.2) fun r8 =>
  some (.inl (), r8))
set_option maxRecDepth 20000 in
set_option maxHeartbeats 2000000 in
theorem s_Ed_draftPart {l : Launch} (hlt : l.stackTraces = false) {D : va_G} {dA : Nat → ClassId} {B N : Nat} {v0 : Nat} {v1 : Int32} {v2 : Int32} {h h' : z_H} {r : Unit ⊕ String} (hf : f_Ed_draftPart N v0 v1 v2 h = some (r, h')) : zx_Met l y_Ed_draftPart prog_5_method_28_code 3 none 6 96 D dA B [.ref v0, .int v1, .int v2] h (zx_rv r) h' := by
  refine zx_of (by decide) (Nat.le_of_ble_eq_true rfl) (fun p e s m below meth c ls X hno hSt hI hl => ?_)
  have hx := z_hx X
  have hb := z_hb X
  have hl : lv_has ls 3 [(0, .ref v0), (1, .int v1), (2, .int v2)] := hl
  unfold f_Ed_draftPart at hf
  obtain ⟨locs, hlo⟩ : ∃ z : List Loc, z = [] := ⟨_, rfl⟩
  rw [← hlo] at hI ⊢
  refine lv_aload_n hx hb d_Ed_draftPart_0 rfl (lv_at hl 0 rfl) ?_
  obtain ⟨x1, ex1, hf⟩ := z_bs hf
  refine z_getF X hI (k := 9) (ci := 3) (gR_s ex1) i_Ed rfl (by decide) wf_Ed_36 d_Ed_draftPart_1 ?_
  refine lv_iload_n hx hb d_Ed_draftPart_4 rfl (lv_at hl 2 rfl) ?_
  refine lv_iload_n hx hb d_Ed_draftPart_5 rfl (lv_at hl 1 rfl) ?_
  refine lv_isub hx hb d_Ed_draftPart_6 ?_
  obtain ⟨u2, eu2, hf⟩ := z_bs hf
  obtain ⟨r3, er3, hf⟩ := z_bs hf
  refine z_callV (As := [.int (v2 - v1)]) (rest := []) (r := (some (.int r3.1))) (h' := r3.2) X hI eu2 (s_Row_hasRoom er3) rfl rfl wm_Ed_136 yi_Row_hasRoom rfl hl.1 rfl (Nat.le_of_ble_eq_true rfl) (by decide) (by decide) d_Ed_draftPart_7 (fun H locs hI => ?_)
  refine W.eq (g2 := F0 m 10 ls [.int (r3.1)]) rfl ?_
  refine lv_if_ne (tgt := 21) hx hb d_Ed_draftPart_10 (by decide) (fun c4 => ?_) (fun c4 => ?_)
  · rw [if_neg c4] at hf
    refine lv_aload_n hx hb d_Ed_draftPart_21 rfl (lv_at hl 0 rfl) ?_
    obtain ⟨x5, ex5, hf⟩ := z_bs hf
    refine z_getF X hI (k := 9) (ci := 3) (gR_s ex5) i_Ed rfl (by decide) wf_Ed_36 d_Ed_draftPart_22 ?_
    refine lv_aload_n hx hb d_Ed_draftPart_25 rfl (lv_at hl 0 rfl) ?_
    obtain ⟨x6, ex6, hf⟩ := z_bs hf
    refine z_getF X hI (k := 1) (ci := 3) (gR_s ex6) i_Ed rfl (by decide) wf_Ed_20 d_Ed_draftPart_26 ?_
    refine lv_iload_n hx hb d_Ed_draftPart_29 rfl (lv_at hl 1 rfl) ?_
    refine lv_iload_n hx hb d_Ed_draftPart_30 rfl (lv_at hl 2 rfl) ?_
    obtain ⟨u7, eu7, hf⟩ := z_bs hf
    obtain ⟨r8, er8, hf⟩ := z_bs hf
    refine z_callV (As := [.ref x6, .int v1, .int v2]) (rest := []) (r := none) (h' := r8) X hI eu7 (s_Row_addPart er8) rfl rfl wm_Ed_126 yi_Row_addPart rfl hl.1 rfl (Nat.le_of_ble_eq_true rfl) (by decide) (by decide) d_Ed_draftPart_31 (fun H locs hI => ?_)
    refine W.eq (g2 := F0 m 34 ls []) rfl ?_
    cases hf
    exact zx_ret (z_vret X hI d_Ed_draftPart_34)
  · rw [if_pos c4] at hf
    cases hf
    exact zx_throw X hlt hno hSt hI xf3 wl_Ed_140 wi_x3 at_Ed_142 hl.1 d_Ed_draftPart_13 d_Ed_draftPart_16 d_Ed_draftPart_17 d_Ed_draftPart_20 ⟨by decide, Nat.le_of_ble_eq_true rfl, by decide, by decide⟩
def f_Ed_draftCharacter (N : Nat) (v0 : Nat) (v1 : Int32) (h : z_H) : Option ((Unit ⊕ String) × z_H) :=
  z_b (gR h v0 3 9) fun x1 =>
  z_b (gO h x1 10) fun u2 =>
  z_b (f_Row_hasRoom N x1 1 h) fun r3 =>
  if (r3.1) = 0 then
  (some (.inr xE3, r3.2))
  else
  (z_b (gR r3.2 v0 3 9) fun x5 =>
  z_b (gO r3.2 x5 10) fun u6 =>
  z_b (f_Row_add N x5 v1 r3.2) fun r7 =>
  some (.inl (), r7))
set_option maxRecDepth 20000 in
set_option maxHeartbeats 2000000 in
theorem s_Ed_draftCharacter {l : Launch} (hlt : l.stackTraces = false) {D : va_G} {dA : Nat → ClassId} {B N : Nat} {v0 : Nat} {v1 : Int32} {h h' : z_H} {r : Unit ⊕ String} (hf : f_Ed_draftCharacter N v0 v1 h = some (r, h')) : zx_Met l y_Ed_draftCharacter prog_5_method_30_code 2 none 6 96 D dA B [.ref v0, .int v1] h (zx_rv r) h' := by
  refine zx_of (by decide) (Nat.le_of_ble_eq_true rfl) (fun p e s m below meth c ls X hno hSt hI hl => ?_)
  have hx := z_hx X
  have hb := z_hb X
  have hl : lv_has ls 2 [(0, .ref v0), (1, .int v1)] := hl
  unfold f_Ed_draftCharacter at hf
  obtain ⟨locs, hlo⟩ : ∃ z : List Loc, z = [] := ⟨_, rfl⟩
  rw [← hlo] at hI ⊢
  refine lv_aload_n hx hb d_Ed_draftCharacter_0 rfl (lv_at hl 0 rfl) ?_
  obtain ⟨x1, ex1, hf⟩ := z_bs hf
  refine z_getF X hI (k := 9) (ci := 3) (gR_s ex1) i_Ed rfl (by decide) wf_Ed_36 d_Ed_draftCharacter_1 ?_
  refine lv_iconst (v := 1) hx hb d_Ed_draftCharacter_4 (by decide) ?_
  obtain ⟨u2, eu2, hf⟩ := z_bs hf
  obtain ⟨r3, er3, hf⟩ := z_bs hf
  refine z_callV (As := [.int 1]) (rest := []) (r := (some (.int r3.1))) (h' := r3.2) X hI eu2 (s_Row_hasRoom er3) rfl rfl wm_Ed_136 yi_Row_hasRoom rfl hl.1 rfl (Nat.le_of_ble_eq_true rfl) (by decide) (by decide) d_Ed_draftCharacter_5 (fun H locs hI => ?_)
  refine W.eq (g2 := F0 m 8 ls [.int (r3.1)]) rfl ?_
  refine lv_if_ne (tgt := 19) hx hb d_Ed_draftCharacter_8 (by decide) (fun c4 => ?_) (fun c4 => ?_)
  · rw [if_neg c4] at hf
    refine lv_aload_n hx hb d_Ed_draftCharacter_19 rfl (lv_at hl 0 rfl) ?_
    obtain ⟨x5, ex5, hf⟩ := z_bs hf
    refine z_getF X hI (k := 9) (ci := 3) (gR_s ex5) i_Ed rfl (by decide) wf_Ed_36 d_Ed_draftCharacter_20 ?_
    refine lv_iload_n hx hb d_Ed_draftCharacter_23 rfl (lv_at hl 1 rfl) ?_
    obtain ⟨u6, eu6, hf⟩ := z_bs hf
    obtain ⟨r7, er7, hf⟩ := z_bs hf
    refine z_callV (As := [.int v1]) (rest := []) (r := none) (h' := r7) X hI eu6 (s_Row_add er7) rfl rfl wm_Ed_143 yi_Row_add rfl hl.1 rfl (Nat.le_of_ble_eq_true rfl) (by decide) (by decide) d_Ed_draftCharacter_24 (fun H locs hI => ?_)
    refine W.eq (g2 := F0 m 27 ls []) rfl ?_
    cases hf
    exact zx_ret (z_vret X hI d_Ed_draftCharacter_27)
  · rw [if_pos c4] at hf
    cases hf
    exact zx_throw X hlt hno hSt hI xf3 wl_Ed_140 wi_x3 at_Ed_142 hl.1 d_Ed_draftCharacter_11 d_Ed_draftCharacter_14 d_Ed_draftCharacter_15 d_Ed_draftCharacter_18 ⟨by decide, Nat.le_of_ble_eq_true rfl, by decide, by decide⟩
def f_Ed_draftReplacement_127 (N : Nat) (k5 : Nat → Nat → Int32 → z_H → Option ((Unit ⊕ String) × z_H)) (v0 : Nat) (v1 : Nat) (v2 : Int32) (v3 : Int32) (h : z_H) : Option ((Unit ⊕ String) × z_H) :=
  z_b (gO h v0 3) fun u1 =>
  z_b (f_Ed_draftCharacter N v0 v3 h) fun r2 =>
  zx_k r2 fun x3 h4 =>
  z_b (some (v2 + 1)) fun x7 =>
  k5 v0 v1 x7 h4
set_option maxRecDepth 20000 in
set_option maxHeartbeats 2000000 in
theorem s_Ed_draftReplacement_127 (X : z_X p s m args meth c prog_5_method_29_code 4 none Ts "StreamForge$Editor" D dA B) {N : Nat} {r : Unit ⊕ String} (hlt : l.stackTraces = false) (hno : ∀ x ∈ c.exceptionTable.toList, False) (hSt : z_St B s s.heap) {h' : z_H} {k5 : Nat → Nat → Int32 → z_H → Option ((Unit ⊕ String) × z_H)} (hk5 : ∀ (v0 : Nat) (v1 : Nat) (v2 : Int32) (h : z_H) (H : Heap) (locs : List Loc) (ls : Array Slot), z_I D dA B h s.heap H locs → lv_has ls 4 [(0, .ref v0), (1, .ref v1), (2, .int v2)] → k5 v0 v1 v2 h = some (r, h') → W p l e (zx_rm 7 118) s m args below meth c H locs 0 0 (zx_MQ below D dA B (zx_rv r) h' args s) (F0 m 5 ls [])) : ∀ (v0 : Nat) (v1 : Nat) (v2 : Int32) (v3 : Int32) (h : z_H) (H : Heap) (locs : List Loc) (ls : Array Slot), z_I D dA B h s.heap H locs → lv_has ls 4 [(0, .ref v0), (1, .ref v1), (2, .int v2), (3, .int v3)] → f_Ed_draftReplacement_127 N k5 v0 v1 v2 v3 h = some (r, h') → W p l e (zx_rm 7 118) s m args below meth c H locs 0 0 (zx_MQ below D dA B (zx_rv r) h' args s) (F0 m 127 ls []) := by
  have hx := z_hx X
  have hb := z_hb X
  intro v0 v1 v2 v3 h H locs ls hI hl hf
  unfold f_Ed_draftReplacement_127 at hf
  refine lv_aload_n hx hb d_Ed_draftReplacement_127 rfl (lv_at hl 0 rfl) ?_
  refine lv_iload_n hx hb d_Ed_draftReplacement_128 rfl (lv_at hl 3 rfl) ?_
  obtain ⟨u1, eu1, hf⟩ := z_bs hf
  obtain ⟨r2, er2, hf⟩ := z_bs hf
  obtain ⟨q5, h4⟩ := r2
  rcases q5 with x3 | E6
  · have hf := zx_kl hf
    refine zx_callV (r := .inl none) (As := [.int v3]) (rest := []) (h' := h4) X hSt hI eu1 (s_Ed_draftCharacter hlt er2) rfl rfl wm_Ed_285 yi_Ed_draftCharacter rfl hl.1 rfl (Nat.le_of_ble_eq_true rfl) (by decide) (by decide) d_Ed_draftReplacement_129 (fun v er H locs hI => ?_) (fun E er => by cases er)
    cases er
    refine W.eq (g2 := F0 m 132 ls []) rfl ?_
    obtain ⟨x7, ex7, hf⟩ := z_bs hf
    refine lv_iinc (v := x7) (lv' := [(2, .int x7), (0, .ref v0), (1, .ref v1), (3, .int v3)]) hx hb d_Ed_draftReplacement_132 hl (k := 2) rfl (by rw [← Option.some.inj ex7]; rfl) (by decide) rfl (fun ls hl => ?_)
    refine lv_goto (tgt := 5) hx hb d_Ed_draftReplacement_135 (by decide) ?_
    exact hk5 v0 v1 x7 h4 _ _ _ hI (lv_sub hl [1, 2, 0] rfl) hf
  · cases zx_kr hf
    exact zx_callV (r := .inr E6) (As := [.int v3]) (rest := []) X hSt hI eu1 (s_Ed_draftCharacter hlt er2) rfl rfl wm_Ed_285 yi_Ed_draftCharacter rfl hl.1 rfl (Nat.le_of_ble_eq_true rfl) (by decide) (by decide) d_Ed_draftReplacement_129 (fun v er => by cases er) (fun E er H locs q ce hI hce hcv hcl => by cases er; exact zx_out X hno hI hce hcv hcl)
def f_Ed_draftReplacement_114 (N : Nat) (k5 : Nat → Nat → Int32 → z_H → Option ((Unit ⊕ String) × z_H)) (v0 : Nat) (v1 : Nat) (v2 : Int32) (v3 : Int32) (h : z_H) : Option ((Unit ⊕ String) × z_H) :=
  if v3 = 110 then
  (f_Ed_draftReplacement_127 N k5 v0 v1 v2 10 h)
  else
  (f_Ed_draftReplacement_127 N k5 v0 v1 v2 v3 h)
set_option maxRecDepth 20000 in
set_option maxHeartbeats 2000000 in
theorem s_Ed_draftReplacement_114 (X : z_X p s m args meth c prog_5_method_29_code 4 none Ts "StreamForge$Editor" D dA B) {N : Nat} {r : Unit ⊕ String} (hlt : l.stackTraces = false) (hno : ∀ x ∈ c.exceptionTable.toList, False) (hSt : z_St B s s.heap) {h' : z_H} {k5 : Nat → Nat → Int32 → z_H → Option ((Unit ⊕ String) × z_H)} (hk5 : ∀ (v0 : Nat) (v1 : Nat) (v2 : Int32) (h : z_H) (H : Heap) (locs : List Loc) (ls : Array Slot), z_I D dA B h s.heap H locs → lv_has ls 4 [(0, .ref v0), (1, .ref v1), (2, .int v2)] → k5 v0 v1 v2 h = some (r, h') → W p l e (zx_rm 7 118) s m args below meth c H locs 0 0 (zx_MQ below D dA B (zx_rv r) h' args s) (F0 m 5 ls [])) : ∀ (v0 : Nat) (v1 : Nat) (v2 : Int32) (v3 : Int32) (h : z_H) (H : Heap) (locs : List Loc) (ls : Array Slot), z_I D dA B h s.heap H locs → lv_has ls 4 [(0, .ref v0), (1, .ref v1), (2, .int v2), (3, .int v3)] → f_Ed_draftReplacement_114 N k5 v0 v1 v2 v3 h = some (r, h') → W p l e (zx_rm 7 118) s m args below meth c H locs 0 0 (zx_MQ below D dA B (zx_rv r) h' args s) (F0 m 114 ls []) := by
  have hx := z_hx X
  have hb := z_hb X
  intro v0 v1 v2 v3 h H locs ls hI hl hf
  unfold f_Ed_draftReplacement_114 at hf
  refine lv_iload_n hx hb d_Ed_draftReplacement_114 rfl (lv_at hl 3 rfl) ?_
  refine lv_bipush (v := 110) hx hb d_Ed_draftReplacement_115 (by decide) ?_
  refine lv_icmp_ne (tgt := 125) hx hb d_Ed_draftReplacement_117 (by decide) (fun c1 => ?_) (fun c1 => ?_)
  · rw [if_neg c1] at hf
    refine lv_iload_n hx hb d_Ed_draftReplacement_125 rfl (lv_at hl 3 rfl) ?_
    refine lv_istore_n (lv' := [(3, .int v3), (0, .ref v0), (1, .ref v1), (2, .int v2)]) hx hb d_Ed_draftReplacement_126 rfl hl (by decide) rfl (fun ls hl => ?_)
    exact s_Ed_draftReplacement_127 X hlt hno hSt hk5 v0 v1 v2 v3 h _ _ _ hI (lv_sub hl [1, 2, 3, 0] rfl) hf
  · rw [if_pos c1] at hf
    refine lv_bipush (v := 10) hx hb d_Ed_draftReplacement_120 (by decide) ?_
    refine lv_goto (tgt := 126) hx hb d_Ed_draftReplacement_122 (by decide) ?_
    refine lv_istore_n (lv' := [(3, .int 10), (0, .ref v0), (1, .ref v1), (2, .int v2)]) hx hb d_Ed_draftReplacement_126 rfl hl (by decide) rfl (fun ls hl => ?_)
    exact s_Ed_draftReplacement_127 X hlt hno hSt hk5 v0 v1 v2 10 h _ _ _ hI (lv_sub hl [1, 2, 3, 0] rfl) hf
def f_Ed_draftReplacement_5 (N : Nat)  : Nat → Nat → Nat → Int32 → z_H → Option ((Unit ⊕ String) × z_H)
  | 0, _, _, _, _ => none
  | n + 1, v0, v1, v2, h =>
    z_b (gI h v1 1 10) fun x1 =>
    if x1 ≤ v2 then
    (some (.inl (), h))
    else
    (z_b (gR h v0 3 10) fun x3 =>
    z_b (gR h x3 9 0) fun x4 =>
    z_b (gO h x4 10) fun u5 =>
    z_b (f_Row_at N x4 v2 h) fun r6 =>
    z_b (some (r6.1)) fun x7 =>
    if x7 = 38 then
    (z_b (gR r6.2 v0 3 8) fun x31 =>
    z_b (gI r6.2 x31 5 0) fun x32 =>
    z_b (gR r6.2 v0 3 8) fun x33 =>
    z_b (gI r6.2 x33 5 1) fun x34 =>
    z_b (gO r6.2 v0 3) fun u35 =>
    z_b (f_Ed_draftPart N v0 x32 x34 r6.2) fun r36 =>
    zx_k r36 fun x37 h38 =>
    z_b (some (v2 + 1)) fun x41 =>
    (f_Ed_draftReplacement_5 N  n) v0 v1 x41 h38)
    else
    (if x7 = 92 then
    (z_b (some (v2 + 1)) fun x10 =>
    z_b (gR r6.2 v0 3 10) fun x11 =>
    z_b (gR r6.2 x11 9 0) fun x12 =>
    z_b (gO r6.2 x12 10) fun u13 =>
    z_b (f_Row_at N x12 x10 r6.2) fun r14 =>
    z_b (some (r14.1)) fun x15 =>
    if x15 < 49 then
    (f_Ed_draftReplacement_114 N (f_Ed_draftReplacement_5 N  n) v0 v1 x10 x15 r14.2)
    else
    (if 51 < x15 then
    (f_Ed_draftReplacement_114 N (f_Ed_draftReplacement_5 N  n) v0 v1 x10 x15 r14.2)
    else
    (z_b (gR r14.2 v0 3 8) fun x18 =>
    z_b (gO r14.2 x18 5) fun u19 =>
    z_b (f_Ma_beginOf N x18 (x15 - 48) r14.2) fun r20 =>
    z_b (gR r20.2 v0 3 8) fun x21 =>
    z_b (gO r20.2 x21 5) fun u22 =>
    z_b (f_Ma_endOf N x21 (x15 - 48) r20.2) fun r23 =>
    z_b (gO r23.2 v0 3) fun u24 =>
    z_b (f_Ed_draftPart N v0 (r20.1) (r23.1) r23.2) fun r25 =>
    zx_k r25 fun x26 h27 =>
    z_b (some (x10 + 1)) fun x30 =>
    (f_Ed_draftReplacement_5 N  n) v0 v1 x30 h27)))
    else
    (f_Ed_draftReplacement_127 N (f_Ed_draftReplacement_5 N  n) v0 v1 v2 x7 r6.2)))
set_option maxRecDepth 20000 in
set_option maxHeartbeats 2000000 in
theorem s_Ed_draftReplacement_5 (X : z_X p s m args meth c prog_5_method_29_code 4 none Ts "StreamForge$Editor" D dA B) {N : Nat} {r : Unit ⊕ String} (hlt : l.stackTraces = false) (hno : ∀ x ∈ c.exceptionTable.toList, False) (hSt : z_St B s s.heap) {h' : z_H}   : ∀ n : Nat, ∀ (v0 : Nat) (v1 : Nat) (v2 : Int32) (h : z_H) (H : Heap) (locs : List Loc) (ls : Array Slot), z_I D dA B h s.heap H locs → lv_has ls 4 [(0, .ref v0), (1, .ref v1), (2, .int v2)] → f_Ed_draftReplacement_5 N  n v0 v1 v2 h = some (r, h') → W p l e (zx_rm 7 118) s m args below meth c H locs 0 0 (zx_MQ below D dA B (zx_rv r) h' args s) (F0 m 5 ls []) := by
  have hx := z_hx X
  have hb := z_hb X
  intro n
  induction n with
  | zero => intro v0 v1 v2 h H locs ls hI hl hf; rw [f_Ed_draftReplacement_5] at hf; cases hf
  | succ n ih =>
    intro v0 v1 v2 h H locs ls hI hl hf
    rw [f_Ed_draftReplacement_5] at hf
    refine lv_iload_n hx hb d_Ed_draftReplacement_5 rfl (lv_at hl 2 rfl) ?_
    refine lv_aload_n hx hb d_Ed_draftReplacement_6 rfl (lv_at hl 1 rfl) ?_
    obtain ⟨x1, ex1, hf⟩ := z_bs hf
    refine z_getF X hI (k := 10) (ci := 1) (gI_s ex1) i_Cmd rfl (by decide) wf_Ed_209 d_Ed_draftReplacement_7 ?_
    refine lv_icmp_ge (tgt := 138) hx hb d_Ed_draftReplacement_10 (by decide) (fun c2 => ?_) (fun c2 => ?_)
    · rw [if_pos c2] at hf
      cases hf
      exact zx_ret (z_vret X hI d_Ed_draftReplacement_138)
    · rw [if_neg c2] at hf
      refine lv_aload_n hx hb d_Ed_draftReplacement_13 rfl (lv_at hl 0 rfl) ?_
      obtain ⟨x3, ex3, hf⟩ := z_bs hf
      refine z_getF X hI (k := 10) (ci := 3) (gR_s ex3) i_Ed rfl (by decide) wf_Ed_39 d_Ed_draftReplacement_14 ?_
      obtain ⟨x4, ex4, hf⟩ := z_bs hf
      refine z_getF X hI (k := 0) (ci := 9) (gR_s ex4) i_Prog rfl (by decide) wf_Ed_203 d_Ed_draftReplacement_17 ?_
      refine lv_iload_n hx hb d_Ed_draftReplacement_20 rfl (lv_at hl 2 rfl) ?_
      obtain ⟨u5, eu5, hf⟩ := z_bs hf
      obtain ⟨r6, er6, hf⟩ := z_bs hf
      refine z_callV (As := [.int v2]) (rest := []) (r := (some (.int r6.1))) (h' := r6.2) X hI eu5 (s_Row_at er6) rfl rfl wm_Ed_247 yi_Row_at rfl hl.1 rfl (Nat.le_of_ble_eq_true rfl) (by decide) (by decide) d_Ed_draftReplacement_21 (fun H locs hI => ?_)
      refine W.eq (g2 := F0 m 24 ls [.int (r6.1)]) rfl ?_
      obtain ⟨x7, ex7, hf⟩ := z_bs hf
      refine z_topi (Option.some.inj ex7) ?_
      refine lv_istore_n (lv' := [(3, .int x7), (0, .ref v0), (1, .ref v1), (2, .int v2)]) hx hb d_Ed_draftReplacement_24 rfl hl (by decide) rfl (fun ls hl => ?_)
      refine lv_iload_n hx hb d_Ed_draftReplacement_25 rfl (lv_at hl 0 rfl) ?_
      refine lv_bipush (v := 38) hx hb d_Ed_draftReplacement_26 (by decide) ?_
      refine lv_icmp_ne (tgt := 52) hx hb d_Ed_draftReplacement_28 (by decide) (fun c8 => ?_) (fun c8 => ?_)
      · rw [if_neg c8] at hf
        refine lv_iload_n hx hb d_Ed_draftReplacement_52 rfl (lv_at hl 0 rfl) ?_
        refine lv_bipush (v := 92) hx hb d_Ed_draftReplacement_53 (by decide) ?_
        refine lv_icmp_ne (tgt := 127) hx hb d_Ed_draftReplacement_55 (by decide) (fun c9 => ?_) (fun c9 => ?_)
        · rw [if_neg c9] at hf
          exact s_Ed_draftReplacement_127 X hlt hno hSt ih v0 v1 v2 x7 r6.2 _ _ _ hI (lv_sub hl [1, 2, 3, 0] rfl) hf
        · rw [if_pos c9] at hf
          obtain ⟨x10, ex10, hf⟩ := z_bs hf
          refine lv_iinc (v := x10) (lv' := [(2, .int x10), (3, .int x7), (0, .ref v0), (1, .ref v1)]) hx hb d_Ed_draftReplacement_58 hl (k := 3) rfl (by rw [← Option.some.inj ex10]; rfl) (by decide) rfl (fun ls hl => ?_)
          refine lv_aload_n hx hb d_Ed_draftReplacement_61 rfl (lv_at hl 2 rfl) ?_
          obtain ⟨x11, ex11, hf⟩ := z_bs hf
          refine z_getF X hI (k := 10) (ci := 3) (gR_s ex11) i_Ed rfl (by decide) wf_Ed_39 d_Ed_draftReplacement_62 ?_
          obtain ⟨x12, ex12, hf⟩ := z_bs hf
          refine z_getF X hI (k := 0) (ci := 9) (gR_s ex12) i_Prog rfl (by decide) wf_Ed_203 d_Ed_draftReplacement_65 ?_
          refine lv_iload_n hx hb d_Ed_draftReplacement_68 rfl (lv_at hl 0 rfl) ?_
          obtain ⟨u13, eu13, hf⟩ := z_bs hf
          obtain ⟨r14, er14, hf⟩ := z_bs hf
          refine z_callV (As := [.int x10]) (rest := []) (r := (some (.int r14.1))) (h' := r14.2) X hI eu13 (s_Row_at er14) rfl rfl wm_Ed_247 yi_Row_at rfl hl.1 rfl (Nat.le_of_ble_eq_true rfl) (by decide) (by decide) d_Ed_draftReplacement_69 (fun H locs hI => ?_)
          refine W.eq (g2 := F0 m 72 ls [.int (r14.1)]) rfl ?_
          obtain ⟨x15, ex15, hf⟩ := z_bs hf
          refine z_topi (Option.some.inj ex15) ?_
          refine lv_istore_n (lv' := [(3, .int x15), (2, .int x10), (0, .ref v0), (1, .ref v1)]) hx hb d_Ed_draftReplacement_72 rfl hl (by decide) rfl (fun ls hl => ?_)
          refine lv_iload_n hx hb d_Ed_draftReplacement_73 rfl (lv_at hl 0 rfl) ?_
          refine lv_bipush (v := 49) hx hb d_Ed_draftReplacement_74 (by decide) ?_
          refine lv_icmp_lt (tgt := 114) hx hb d_Ed_draftReplacement_76 (by decide) (fun c16 => ?_) (fun c16 => ?_)
          · rw [if_pos c16] at hf
            exact s_Ed_draftReplacement_114 X hlt hno hSt ih v0 v1 x10 x15 r14.2 _ _ _ hI (lv_sub hl [2, 3, 1, 0] rfl) hf
          · rw [if_neg c16] at hf
            refine lv_iload_n hx hb d_Ed_draftReplacement_79 rfl (lv_at hl 0 rfl) ?_
            refine lv_bipush (v := 51) hx hb d_Ed_draftReplacement_80 (by decide) ?_
            refine lv_icmp_gt (tgt := 114) hx hb d_Ed_draftReplacement_82 (by decide) (fun c17 => ?_) (fun c17 => ?_)
            · rw [if_pos c17] at hf
              exact s_Ed_draftReplacement_114 X hlt hno hSt ih v0 v1 x10 x15 r14.2 _ _ _ hI (lv_sub hl [2, 3, 1, 0] rfl) hf
            · rw [if_neg c17] at hf
              refine lv_aload_n hx hb d_Ed_draftReplacement_85 rfl (lv_at hl 2 rfl) ?_
              refine lv_aload_n hx hb d_Ed_draftReplacement_86 rfl (lv_at hl 2 rfl) ?_
              obtain ⟨x18, ex18, hf⟩ := z_bs hf
              refine z_getF X hI (k := 8) (ci := 3) (gR_s ex18) i_Ed rfl (by decide) wf_Ed_32 d_Ed_draftReplacement_87 ?_
              refine lv_iload_n hx hb d_Ed_draftReplacement_90 rfl (lv_at hl 0 rfl) ?_
              refine lv_bipush (v := 48) hx hb d_Ed_draftReplacement_91 (by decide) ?_
              refine lv_isub hx hb d_Ed_draftReplacement_93 ?_
              obtain ⟨u19, eu19, hf⟩ := z_bs hf
              obtain ⟨r20, er20, hf⟩ := z_bs hf
              refine z_callV (As := [.int (x15 - 48)]) (rest := [.ref v0]) (r := (some (.int r20.1))) (h' := r20.2) X hI eu19 (s_Ma_beginOf er20) rfl rfl wm_Ed_279 yi_Ma_beginOf rfl hl.1 rfl (Nat.le_of_ble_eq_true rfl) (by decide) (by decide) d_Ed_draftReplacement_94 (fun H locs hI => ?_)
              refine W.eq (g2 := F0 m 97 ls [.int (r20.1), .ref v0]) rfl ?_
              refine lv_aload_n hx hb d_Ed_draftReplacement_97 rfl (lv_at hl 2 rfl) ?_
              obtain ⟨x21, ex21, hf⟩ := z_bs hf
              refine z_getF X hI (k := 8) (ci := 3) (gR_s ex21) i_Ed rfl (by decide) wf_Ed_32 d_Ed_draftReplacement_98 ?_
              refine lv_iload_n hx hb d_Ed_draftReplacement_101 rfl (lv_at hl 0 rfl) ?_
              refine lv_bipush (v := 48) hx hb d_Ed_draftReplacement_102 (by decide) ?_
              refine lv_isub hx hb d_Ed_draftReplacement_104 ?_
              obtain ⟨u22, eu22, hf⟩ := z_bs hf
              obtain ⟨r23, er23, hf⟩ := z_bs hf
              refine z_callV (As := [.int (x15 - 48)]) (rest := [.int (r20.1), .ref v0]) (r := (some (.int r23.1))) (h' := r23.2) X hI eu22 (s_Ma_endOf er23) rfl rfl wm_Ed_282 yi_Ma_endOf rfl hl.1 rfl (Nat.le_of_ble_eq_true rfl) (by decide) (by decide) d_Ed_draftReplacement_105 (fun H locs hI => ?_)
              refine W.eq (g2 := F0 m 108 ls [.int (r23.1), .int (r20.1), .ref v0]) rfl ?_
              obtain ⟨u24, eu24, hf⟩ := z_bs hf
              obtain ⟨r25, er25, hf⟩ := z_bs hf
              obtain ⟨q28, h27⟩ := r25
              rcases q28 with x26 | E29
              · have hf := zx_kl hf
                refine zx_callV (r := .inl none) (As := [.int (r20.1), .int (r23.1)]) (rest := []) (h' := h27) X hSt hI eu24 (s_Ed_draftPart hlt er25) rfl rfl wm_Ed_265 yi_Ed_draftPart rfl hl.1 rfl (Nat.le_of_ble_eq_true rfl) (by decide) (by decide) d_Ed_draftReplacement_108 (fun v er H locs hI => ?_) (fun E er => by cases er)
                cases er
                refine W.eq (g2 := F0 m 111 ls []) rfl ?_
                refine lv_goto (tgt := 132) hx hb d_Ed_draftReplacement_111 (by decide) ?_
                obtain ⟨x30, ex30, hf⟩ := z_bs hf
                refine lv_iinc (v := x30) (lv' := [(2, .int x30), (3, .int x15), (0, .ref v0), (1, .ref v1)]) hx hb d_Ed_draftReplacement_132 hl (k := 1) rfl (by rw [← Option.some.inj ex30]; rfl) (by decide) rfl (fun ls hl => ?_)
                refine lv_goto (tgt := 5) hx hb d_Ed_draftReplacement_135 (by decide) ?_
                exact ih v0 v1 x30 h27 _ _ _ hI (lv_sub hl [2, 3, 0] rfl) hf
              · cases zx_kr hf
                exact zx_callV (r := .inr E29) (As := [.int (r20.1), .int (r23.1)]) (rest := []) X hSt hI eu24 (s_Ed_draftPart hlt er25) rfl rfl wm_Ed_265 yi_Ed_draftPart rfl hl.1 rfl (Nat.le_of_ble_eq_true rfl) (by decide) (by decide) d_Ed_draftReplacement_108 (fun v er => by cases er) (fun E er H locs q ce hI hce hcv hcl => by cases er; exact zx_out X hno hI hce hcv hcl)
      · rw [if_pos c8] at hf
        refine lv_aload_n hx hb d_Ed_draftReplacement_31 rfl (lv_at hl 1 rfl) ?_
        refine lv_aload_n hx hb d_Ed_draftReplacement_32 rfl (lv_at hl 1 rfl) ?_
        obtain ⟨x31, ex31, hf⟩ := z_bs hf
        refine z_getF X hI (k := 8) (ci := 3) (gR_s ex31) i_Ed rfl (by decide) wf_Ed_32 d_Ed_draftReplacement_33 ?_
        obtain ⟨x32, ex32, hf⟩ := z_bs hf
        refine z_getF X hI (k := 0) (ci := 5) (gI_s ex32) i_Ma rfl (by decide) wf_Ed_257 d_Ed_draftReplacement_36 ?_
        refine lv_aload_n hx hb d_Ed_draftReplacement_39 rfl (lv_at hl 1 rfl) ?_
        obtain ⟨x33, ex33, hf⟩ := z_bs hf
        refine z_getF X hI (k := 8) (ci := 3) (gR_s ex33) i_Ed rfl (by decide) wf_Ed_32 d_Ed_draftReplacement_40 ?_
        obtain ⟨x34, ex34, hf⟩ := z_bs hf
        refine z_getF X hI (k := 1) (ci := 5) (gI_s ex34) i_Ma rfl (by decide) wf_Ed_259 d_Ed_draftReplacement_43 ?_
        obtain ⟨u35, eu35, hf⟩ := z_bs hf
        obtain ⟨r36, er36, hf⟩ := z_bs hf
        obtain ⟨q39, h38⟩ := r36
        rcases q39 with x37 | E40
        · have hf := zx_kl hf
          refine zx_callV (r := .inl none) (As := [.int x32, .int x34]) (rest := []) (h' := h38) X hSt hI eu35 (s_Ed_draftPart hlt er36) rfl rfl wm_Ed_265 yi_Ed_draftPart rfl hl.1 rfl (Nat.le_of_ble_eq_true rfl) (by decide) (by decide) d_Ed_draftReplacement_46 (fun v er H locs hI => ?_) (fun E er => by cases er)
          cases er
          refine W.eq (g2 := F0 m 49 ls []) rfl ?_
          refine lv_goto (tgt := 132) hx hb d_Ed_draftReplacement_49 (by decide) ?_
          obtain ⟨x41, ex41, hf⟩ := z_bs hf
          refine lv_iinc (v := x41) (lv' := [(2, .int x41), (3, .int x7), (0, .ref v0), (1, .ref v1)]) hx hb d_Ed_draftReplacement_132 hl (k := 3) rfl (by rw [← Option.some.inj ex41]; rfl) (by decide) rfl (fun ls hl => ?_)
          refine lv_goto (tgt := 5) hx hb d_Ed_draftReplacement_135 (by decide) ?_
          exact ih v0 v1 x41 h38 _ _ _ hI (lv_sub hl [2, 3, 0] rfl) hf
        · cases zx_kr hf
          exact zx_callV (r := .inr E40) (As := [.int x32, .int x34]) (rest := []) X hSt hI eu35 (s_Ed_draftPart hlt er36) rfl rfl wm_Ed_265 yi_Ed_draftPart rfl hl.1 rfl (Nat.le_of_ble_eq_true rfl) (by decide) (by decide) d_Ed_draftReplacement_46 (fun v er => by cases er) (fun E er H locs q ce hI hce hcv hcl => by cases er; exact zx_out X hno hI hce hcv hcl)
def f_Ed_draftReplacement (N : Nat) (v0 : Nat) (v1 : Nat) (h : z_H) : Option ((Unit ⊕ String) × z_H) :=
  z_b (gI h v1 1 9) fun x1 =>
  f_Ed_draftReplacement_5 N N v0 v1 x1 h
set_option maxRecDepth 20000 in
set_option maxHeartbeats 2000000 in
theorem s_Ed_draftReplacement {l : Launch} (hlt : l.stackTraces = false) {D : va_G} {dA : Nat → ClassId} {B N : Nat} {v0 : Nat} {v1 : Nat} {h h' : z_H} {r : Unit ⊕ String} (hf : f_Ed_draftReplacement N v0 v1 h = some (r, h')) : zx_Met l y_Ed_draftReplacement prog_5_method_29_code 4 none 7 118 D dA B [.ref v0, .ref v1] h (zx_rv r) h' := by
  refine zx_of (by decide) (Nat.le_of_ble_eq_true rfl) (fun p e s m below meth c ls X hno hSt hI hl => ?_)
  have hx := z_hx X
  have hb := z_hb X
  have hl : lv_has ls 4 [(0, .ref v0), (1, .ref v1)] := hl
  unfold f_Ed_draftReplacement at hf
  obtain ⟨locs, hlo⟩ : ∃ z : List Loc, z = [] := ⟨_, rfl⟩
  rw [← hlo] at hI ⊢
  refine lv_aload_n hx hb d_Ed_draftReplacement_0 rfl (lv_at hl 1 rfl) ?_
  obtain ⟨x1, ex1, hf⟩ := z_bs hf
  refine z_getF X hI (k := 9) (ci := 1) (gI_s ex1) i_Cmd rfl (by decide) wf_Ed_206 d_Ed_draftReplacement_1 ?_
  refine lv_istore_n (lv' := [(2, .int x1), (0, .ref v0), (1, .ref v1)]) hx hb d_Ed_draftReplacement_4 rfl hl (by decide) rfl (fun ls hl => ?_)
  exact s_Ed_draftReplacement_5 X hlt hno hSt  N v0 v1 x1 h _ _ _ hI (lv_sub hl [1, 2, 0] rfl) hf
def f_Ed_takeDraft_34 (N : Nat)  (v0 : Nat) (v1 : Nat) (v2 : Int32) (h : z_H) : Option ((Unit ⊕ String) × z_H) :=
  z_b (gR h v0 3 1) fun x1 =>
  z_b (gR h v0 3 9) fun x2 =>
  z_b (sF h v0 3 1 (.ref x2)) fun h3 =>
  z_b (sF h3 v0 3 9 (.ref x1)) fun h4 =>
  z_b (gI h4 v0 3 6) fun x5 =>
  z_b (sF h4 v0 3 6 (.int (x5 + v2))) fun h6 =>
  z_b (sF h6 v0 3 15 (.int 1)) fun h7 =>
  z_b (gI h7 v1 1 13) fun x8 =>
  if x8 = 0 then
  (some (.inl (), h7))
  else
  (z_b (gR h7 v0 3 1) fun x10 =>
  z_b (gR h7 v0 3 1) fun x11 =>
  z_b (gI h7 x11 10 1) fun x12 =>
  z_b (gO h7 v0 3) fun u13 =>
  z_b (f_Ed_tell N v0 x10 0 x12 h7) fun r14 =>
  zx_k r14 fun x15 h16 =>
  some (.inl (), h16))
set_option maxRecDepth 20000 in
set_option maxHeartbeats 2000000 in
theorem s_Ed_takeDraft_34 (X : z_X p s m args meth c prog_5_method_27_code 4 none Ts "StreamForge$Editor" D dA B) {N : Nat} {r : Unit ⊕ String} (hlt : l.stackTraces = false) (hno : ∀ x ∈ c.exceptionTable.toList, False) (hSt : z_St B s s.heap) {h' : z_H}   : ∀ (v0 : Nat) (v1 : Nat) (v2 : Int32) (h : z_H) (H : Heap) (locs : List Loc) (ls : Array Slot), z_I D dA B h s.heap H locs → lv_has ls 4 [(0, .ref v0), (1, .ref v1), (2, .int v2)] → f_Ed_takeDraft_34 N  v0 v1 v2 h = some (r, h') → W p l e (zx_rm 7 119) s m args below meth c H locs 0 0 (zx_MQ below D dA B (zx_rv r) h' args s) (F0 m 34 ls []) := by
  have hx := z_hx X
  have hb := z_hb X
  intro v0 v1 v2 h H locs ls hI hl hf
  unfold f_Ed_takeDraft_34 at hf
  refine lv_aload_n hx hb d_Ed_takeDraft_34 rfl (lv_at hl 0 rfl) ?_
  obtain ⟨x1, ex1, hf⟩ := z_bs hf
  refine z_getF X hI (k := 1) (ci := 3) (gR_s ex1) i_Ed rfl (by decide) wf_Ed_20 d_Ed_takeDraft_35 ?_
  refine lv_astore_n (lv' := [(3, .ref x1), (0, .ref v0), (1, .ref v1), (2, .int v2)]) hx hb d_Ed_takeDraft_38 rfl hl (by decide) rfl (fun ls hl => ?_)
  refine lv_aload_n hx hb d_Ed_takeDraft_39 rfl (lv_at hl 1 rfl) ?_
  refine lv_aload_n hx hb d_Ed_takeDraft_40 rfl (lv_at hl 1 rfl) ?_
  obtain ⟨x2, ex2, hf⟩ := z_bs hf
  refine z_getF X hI (k := 9) (ci := 3) (gR_s ex2) i_Ed rfl (by decide) wf_Ed_36 d_Ed_takeDraft_41 ?_
  obtain ⟨h3, eh3, hf⟩ := z_bs hf
  refine z_putF X hI (k := 1) (ci := 3) (ty0 := t_Ed) eh3 i_Ed t_Ed_ok n_Ed rfl (by decide) wf_Ed_20 rfl rfl rfl d_Ed_takeDraft_44 (fun H locs hI => ?_)
  refine lv_aload_n hx hb d_Ed_takeDraft_47 rfl (lv_at hl 1 rfl) ?_
  refine lv_aload_n hx hb d_Ed_takeDraft_48 rfl (lv_at hl 0 rfl) ?_
  obtain ⟨h4, eh4, hf⟩ := z_bs hf
  refine z_putF X hI (k := 9) (ci := 3) (ty0 := t_Ed) eh4 i_Ed t_Ed_ok n_Ed rfl (by decide) wf_Ed_36 rfl rfl rfl d_Ed_takeDraft_49 (fun H locs hI => ?_)
  refine lv_aload_n hx hb d_Ed_takeDraft_52 rfl (lv_at hl 1 rfl) ?_
  refine lv_dup hx hb d_Ed_takeDraft_53 rfl ?_
  obtain ⟨x5, ex5, hf⟩ := z_bs hf
  refine z_getF X hI (k := 6) (ci := 3) (gI_s ex5) i_Ed rfl (by decide) wf_Ed_105 d_Ed_takeDraft_54 ?_
  refine lv_iload_n hx hb d_Ed_takeDraft_57 rfl (lv_at hl 3 rfl) ?_
  refine lv_iadd hx hb d_Ed_takeDraft_58 ?_
  obtain ⟨h6, eh6, hf⟩ := z_bs hf
  refine z_putF X hI (k := 6) (ci := 3) (ty0 := t_Ed) eh6 i_Ed t_Ed_ok n_Ed rfl (by decide) wf_Ed_105 rfl rfl rfl d_Ed_takeDraft_59 (fun H locs hI => ?_)
  refine lv_aload_n hx hb d_Ed_takeDraft_62 rfl (lv_at hl 1 rfl) ?_
  refine lv_iconst (v := 1) hx hb d_Ed_takeDraft_63 (by decide) ?_
  obtain ⟨h7, eh7, hf⟩ := z_bs hf
  refine z_putF X hI (k := 15) (ci := 3) (ty0 := t_Ed) eh7 i_Ed t_Ed_ok n_Ed rfl (by decide) wf_Ed_120 rfl rfl rfl d_Ed_takeDraft_64 (fun H locs hI => ?_)
  refine lv_aload_n hx hb d_Ed_takeDraft_67 rfl (lv_at hl 2 rfl) ?_
  obtain ⟨x8, ex8, hf⟩ := z_bs hf
  refine z_getF X hI (k := 13) (ci := 1) (gI_s ex8) i_Cmd rfl (by decide) wf_Ed_276 d_Ed_takeDraft_68 ?_
  refine lv_if_eq (tgt := 90) hx hb d_Ed_takeDraft_71 (by decide) (fun c9 => ?_) (fun c9 => ?_)
  · rw [if_pos c9] at hf
    cases hf
    exact zx_ret (z_vret X hI d_Ed_takeDraft_90)
  · rw [if_neg c9] at hf
    refine lv_aload_n hx hb d_Ed_takeDraft_74 rfl (lv_at hl 1 rfl) ?_
    refine lv_aload_n hx hb d_Ed_takeDraft_75 rfl (lv_at hl 1 rfl) ?_
    obtain ⟨x10, ex10, hf⟩ := z_bs hf
    refine z_getF X hI (k := 1) (ci := 3) (gR_s ex10) i_Ed rfl (by decide) wf_Ed_20 d_Ed_takeDraft_76 ?_
    refine lv_iconst (v := 0) hx hb d_Ed_takeDraft_79 (by decide) ?_
    refine lv_aload_n hx hb d_Ed_takeDraft_80 rfl (lv_at hl 1 rfl) ?_
    obtain ⟨x11, ex11, hf⟩ := z_bs hf
    refine z_getF X hI (k := 1) (ci := 3) (gR_s ex11) i_Ed rfl (by decide) wf_Ed_20 d_Ed_takeDraft_81 ?_
    obtain ⟨x12, ex12, hf⟩ := z_bs hf
    refine z_getF X hI (k := 1) (ci := 10) (gI_s ex12) i_Row rfl (by decide) wf_Ed_123 d_Ed_takeDraft_84 ?_
    obtain ⟨u13, eu13, hf⟩ := z_bs hf
    obtain ⟨r14, er14, hf⟩ := z_bs hf
    obtain ⟨q17, h16⟩ := r14
    rcases q17 with x15 | E18
    · have hf := zx_kl hf
      refine zx_callV (r := .inl none) (As := [.ref x10, .int 0, .int x12]) (rest := []) (h' := h16) X hSt hI eu13 (s_Ed_tell hlt er14) rfl rfl wm_Ed_130 yi_Ed_tell rfl hl.1 rfl (Nat.le_of_ble_eq_true rfl) (by decide) (by decide) d_Ed_takeDraft_87 (fun v er H locs hI => ?_) (fun E er => by cases er)
      cases er
      refine W.eq (g2 := F0 m 90 ls []) rfl ?_
      cases hf
      exact zx_ret (z_vret X hI d_Ed_takeDraft_90)
    · cases zx_kr hf
      exact zx_callV (r := .inr E18) (As := [.ref x10, .int 0, .int x12]) (rest := []) X hSt hI eu13 (s_Ed_tell hlt er14) rfl rfl wm_Ed_130 yi_Ed_tell rfl hl.1 rfl (Nat.le_of_ble_eq_true rfl) (by decide) (by decide) d_Ed_takeDraft_87 (fun v er => by cases er) (fun E er H locs q ce hI hce hcv hcl => by cases er; exact zx_out X hno hI hce hcv hcl)
def f_Ed_takeDraft (N : Nat) (v0 : Nat) (v1 : Nat) (v2 : Int32) (h : z_H) : Option ((Unit ⊕ String) × z_H) :=
  z_b (gI h v1 1 13) fun x1 =>
  if x1 = 0 then
  (f_Ed_takeDraft_34 N v0 v1 v2 h)
  else
  (z_b (gR h v0 3 0) fun x3 =>
  z_b (gR h v0 3 9) fun x4 =>
  z_b (gI h x4 10 1) fun x5 =>
  z_b (gO h x3 10) fun u6 =>
  z_b (f_Row_hasRoom N x3 (x5 + 1) h) fun r7 =>
  if (r7.1) = 0 then
  (some (.inr xE3, r7.2))
  else
  (f_Ed_takeDraft_34 N v0 v1 v2 r7.2))
set_option maxRecDepth 20000 in
set_option maxHeartbeats 2000000 in
theorem s_Ed_takeDraft {l : Launch} (hlt : l.stackTraces = false) {D : va_G} {dA : Nat → ClassId} {B N : Nat} {v0 : Nat} {v1 : Nat} {v2 : Int32} {h h' : z_H} {r : Unit ⊕ String} (hf : f_Ed_takeDraft N v0 v1 v2 h = some (r, h')) : zx_Met l y_Ed_takeDraft prog_5_method_27_code 4 none 7 119 D dA B [.ref v0, .ref v1, .int v2] h (zx_rv r) h' := by
  refine zx_of (by decide) (Nat.le_of_ble_eq_true rfl) (fun p e s m below meth c ls X hno hSt hI hl => ?_)
  have hx := z_hx X
  have hb := z_hb X
  have hl : lv_has ls 4 [(0, .ref v0), (1, .ref v1), (2, .int v2)] := hl
  unfold f_Ed_takeDraft at hf
  obtain ⟨locs, hlo⟩ : ∃ z : List Loc, z = [] := ⟨_, rfl⟩
  rw [← hlo] at hI ⊢
  refine lv_aload_n hx hb d_Ed_takeDraft_0 rfl (lv_at hl 1 rfl) ?_
  obtain ⟨x1, ex1, hf⟩ := z_bs hf
  refine z_getF X hI (k := 13) (ci := 1) (gI_s ex1) i_Cmd rfl (by decide) wf_Ed_276 d_Ed_takeDraft_1 ?_
  refine lv_if_eq (tgt := 34) hx hb d_Ed_takeDraft_4 (by decide) (fun c2 => ?_) (fun c2 => ?_)
  · rw [if_pos c2] at hf
    exact s_Ed_takeDraft_34 X hlt hno hSt  v0 v1 v2 h _ _ _ hI (lv_sub hl [0, 1, 2] rfl) hf
  · rw [if_neg c2] at hf
    refine lv_aload_n hx hb d_Ed_takeDraft_7 rfl (lv_at hl 0 rfl) ?_
    obtain ⟨x3, ex3, hf⟩ := z_bs hf
    refine z_getF X hI (k := 0) (ci := 3) (gR_s ex3) i_Ed rfl (by decide) wf_Ed_14 d_Ed_takeDraft_8 ?_
    refine lv_aload_n hx hb d_Ed_takeDraft_11 rfl (lv_at hl 0 rfl) ?_
    obtain ⟨x4, ex4, hf⟩ := z_bs hf
    refine z_getF X hI (k := 9) (ci := 3) (gR_s ex4) i_Ed rfl (by decide) wf_Ed_36 d_Ed_takeDraft_12 ?_
    obtain ⟨x5, ex5, hf⟩ := z_bs hf
    refine z_getF X hI (k := 1) (ci := 10) (gI_s ex5) i_Row rfl (by decide) wf_Ed_123 d_Ed_takeDraft_15 ?_
    refine lv_iconst (v := 1) hx hb d_Ed_takeDraft_18 (by decide) ?_
    refine lv_iadd hx hb d_Ed_takeDraft_19 ?_
    obtain ⟨u6, eu6, hf⟩ := z_bs hf
    obtain ⟨r7, er7, hf⟩ := z_bs hf
    refine z_callV (As := [.int (x5 + 1)]) (rest := []) (r := (some (.int r7.1))) (h' := r7.2) X hI eu6 (s_Row_hasRoom er7) rfl rfl wm_Ed_136 yi_Row_hasRoom rfl hl.1 rfl (Nat.le_of_ble_eq_true rfl) (by decide) (by decide) d_Ed_takeDraft_20 (fun H locs hI => ?_)
    refine W.eq (g2 := F0 m 23 ls [.int (r7.1)]) rfl ?_
    refine lv_if_ne (tgt := 34) hx hb d_Ed_takeDraft_23 (by decide) (fun c8 => ?_) (fun c8 => ?_)
    · rw [if_neg c8] at hf
      exact s_Ed_takeDraft_34 X hlt hno hSt  v0 v1 v2 r7.2 _ _ _ hI (lv_sub hl [0, 1, 2] rfl) hf
    · rw [if_pos c8] at hf
      cases hf
      exact zx_throw X hlt hno hSt hI xf3 wl_Ed_140 wi_x3 at_Ed_142 hl.1 d_Ed_takeDraft_26 d_Ed_takeDraft_29 d_Ed_takeDraft_30 d_Ed_takeDraft_33 ⟨by decide, Nat.le_of_ble_eq_true rfl, by decide, by decide⟩
def f_Ed_substitute_177 (N : Nat) (k23 : Nat → Nat → Int32 → Int32 → Int32 → Int32 → Int32 → Int32 → z_H → Option ((Unit ⊕ String) × z_H)) (v0 : Nat) (v1 : Nat) (v2 : Int32) (v3 : Int32) (v4 : Int32) (v7 : Int32) (v9 : Int32) (h : z_H) : Option ((Unit ⊕ String) × z_H) :=
  z_b (gR h v0 3 8) fun x1 =>
  z_b (gI h x1 5 1) fun x2 =>
  if v9 = 0 then
  (z_b (gR h v0 3 8) fun x4 =>
  z_b (gI h x4 5 1) fun x5 =>
  z_b (some (v7 + 1)) fun x6 =>
  k23 v0 v1 v2 v3 v4 x2 x5 x6 h)
  else
  (z_b (gR h v0 3 8) fun x7 =>
  z_b (gI h x7 5 1) fun x8 =>
  z_b (some (x8 + 1)) fun x9 =>
  z_b (some (v7 + 1)) fun x10 =>
  k23 v0 v1 v2 v3 v4 x2 x9 x10 h)
set_option maxRecDepth 20000 in
set_option maxHeartbeats 2000000 in
theorem s_Ed_substitute_177 (X : z_X p s m args meth c prog_5_method_26_code 10 none Ts "StreamForge$Editor" D dA B) {N : Nat} {r : Unit ⊕ String} (hlt : l.stackTraces = false) (hno : ∀ x ∈ c.exceptionTable.toList, False) (hSt : z_St B s s.heap) {h' : z_H} {k23 : Nat → Nat → Int32 → Int32 → Int32 → Int32 → Int32 → Int32 → z_H → Option ((Unit ⊕ String) × z_H)} (hk23 : ∀ (v0 : Nat) (v1 : Nat) (v2 : Int32) (v3 : Int32) (v4 : Int32) (v5 : Int32) (v6 : Int32) (v7 : Int32) (h : z_H) (H : Heap) (locs : List Loc) (ls : Array Slot), z_I D dA B h s.heap H locs → lv_has ls 10 [(0, .ref v0), (1, .ref v1), (2, .int v2), (3, .int v3), (4, .int v4), (5, .int v5), (6, .int v6), (7, .int v7)] → k23 v0 v1 v2 v3 v4 v5 v6 v7 h = some (r, h') → W p l e (zx_rm 8 142) s m args below meth c H locs 0 0 (zx_MQ below D dA B (zx_rv r) h' args s) (F0 m 23 ls [])) : ∀ (v0 : Nat) (v1 : Nat) (v2 : Int32) (v3 : Int32) (v4 : Int32) (v7 : Int32) (v9 : Int32) (h : z_H) (H : Heap) (locs : List Loc) (ls : Array Slot), z_I D dA B h s.heap H locs → lv_has ls 10 [(0, .ref v0), (1, .ref v1), (2, .int v2), (3, .int v3), (4, .int v4), (7, .int v7), (9, .int v9)] → f_Ed_substitute_177 N k23 v0 v1 v2 v3 v4 v7 v9 h = some (r, h') → W p l e (zx_rm 8 142) s m args below meth c H locs 0 0 (zx_MQ below D dA B (zx_rv r) h' args s) (F0 m 177 ls []) := by
  have hx := z_hx X
  have hb := z_hb X
  intro v0 v1 v2 v3 v4 v7 v9 h H locs ls hI hl hf
  unfold f_Ed_substitute_177 at hf
  refine lv_aload_n hx hb d_Ed_substitute_177 rfl (lv_at hl 0 rfl) ?_
  obtain ⟨x1, ex1, hf⟩ := z_bs hf
  refine z_getF X hI (k := 8) (ci := 3) (gR_s ex1) i_Ed rfl (by decide) wf_Ed_32 d_Ed_substitute_178 ?_
  obtain ⟨x2, ex2, hf⟩ := z_bs hf
  refine z_getF X hI (k := 1) (ci := 5) (gI_s ex2) i_Ma rfl (by decide) wf_Ed_259 d_Ed_substitute_181 ?_
  refine lv_istore (lv' := [(5, .int x2), (0, .ref v0), (1, .ref v1), (2, .int v2), (3, .int v3), (4, .int v4), (7, .int v7), (9, .int v9)]) hx hb d_Ed_substitute_184 hl (by decide) rfl (fun ls hl => ?_)
  refine lv_iload hx hb d_Ed_substitute_186 (lv_at hl 7 rfl) ?_
  refine lv_if_eq (tgt := 203) hx hb d_Ed_substitute_188 (by decide) (fun c3 => ?_) (fun c3 => ?_)
  · rw [if_pos c3] at hf
    refine lv_aload_n hx hb d_Ed_substitute_203 rfl (lv_at hl 1 rfl) ?_
    obtain ⟨x4, ex4, hf⟩ := z_bs hf
    refine z_getF X hI (k := 8) (ci := 3) (gR_s ex4) i_Ed rfl (by decide) wf_Ed_32 d_Ed_substitute_204 ?_
    obtain ⟨x5, ex5, hf⟩ := z_bs hf
    refine z_getF X hI (k := 1) (ci := 5) (gI_s ex5) i_Ma rfl (by decide) wf_Ed_259 d_Ed_substitute_207 ?_
    refine lv_istore (lv' := [(6, .int x5), (5, .int x2), (0, .ref v0), (1, .ref v1), (2, .int v2), (3, .int v3), (4, .int v4), (7, .int v7), (9, .int v9)]) hx hb d_Ed_substitute_210 hl (by decide) rfl (fun ls hl => ?_)
    obtain ⟨x6, ex6, hf⟩ := z_bs hf
    refine lv_iinc (v := x6) (lv' := [(7, .int x6), (6, .int x5), (5, .int x2), (0, .ref v0), (1, .ref v1), (2, .int v2), (3, .int v3), (4, .int v4), (9, .int v9)]) hx hb d_Ed_substitute_212 hl (k := 7) rfl (by rw [← Option.some.inj ex6]; rfl) (by decide) rfl (fun ls hl => ?_)
    refine lv_goto (tgt := 23) hx hb d_Ed_substitute_215 (by decide) ?_
    exact hk23 v0 v1 v2 v3 v4 x2 x5 x6 h _ _ _ hI (lv_sub hl [3, 4, 5, 6, 7, 2, 1, 0] rfl) hf
  · rw [if_neg c3] at hf
    refine lv_aload_n hx hb d_Ed_substitute_191 rfl (lv_at hl 1 rfl) ?_
    obtain ⟨x7, ex7, hf⟩ := z_bs hf
    refine z_getF X hI (k := 8) (ci := 3) (gR_s ex7) i_Ed rfl (by decide) wf_Ed_32 d_Ed_substitute_192 ?_
    obtain ⟨x8, ex8, hf⟩ := z_bs hf
    refine z_getF X hI (k := 1) (ci := 5) (gI_s ex8) i_Ma rfl (by decide) wf_Ed_259 d_Ed_substitute_195 ?_
    refine lv_iconst (v := 1) hx hb d_Ed_substitute_198 (by decide) ?_
    refine lv_iadd hx hb d_Ed_substitute_199 ?_
    refine lv_goto (tgt := 210) hx hb d_Ed_substitute_200 (by decide) ?_
    obtain ⟨x9, ex9, hf⟩ := z_bs hf
    refine z_topi (Option.some.inj ex9) ?_
    refine lv_istore (lv' := [(6, .int x9), (5, .int x2), (0, .ref v0), (1, .ref v1), (2, .int v2), (3, .int v3), (4, .int v4), (7, .int v7), (9, .int v9)]) hx hb d_Ed_substitute_210 hl (by decide) rfl (fun ls hl => ?_)
    obtain ⟨x10, ex10, hf⟩ := z_bs hf
    refine lv_iinc (v := x10) (lv' := [(7, .int x10), (6, .int x9), (5, .int x2), (0, .ref v0), (1, .ref v1), (2, .int v2), (3, .int v3), (4, .int v4), (9, .int v9)]) hx hb d_Ed_substitute_212 hl (k := 7) rfl (by rw [← Option.some.inj ex10]; rfl) (by decide) rfl (fun ls hl => ?_)
    refine lv_goto (tgt := 23) hx hb d_Ed_substitute_215 (by decide) ?_
    exact hk23 v0 v1 v2 v3 v4 x2 x9 x10 h _ _ _ hI (lv_sub hl [3, 4, 5, 6, 7, 2, 1, 0] rfl) hf
def f_Ed_substitute_136 (N : Nat) (k23 : Nat → Nat → Int32 → Int32 → Int32 → Int32 → Int32 → Int32 → z_H → Option ((Unit ⊕ String) × z_H)) (v0 : Nat) (v1 : Nat) (v2 : Int32) (v3 : Int32) (v4 : Int32) (v7 : Int32) (v9 : Int32) (h : z_H) : Option ((Unit ⊕ String) × z_H) :=
  z_b (some (v2 + 1)) fun x1 =>
  z_b (gO h v1 1) fun u2 =>
  z_b (f_Cmd_replaces N v1 x1 h) fun r3 =>
  if (r3.1) = 0 then
  (f_Ed_substitute_177 N k23 v0 v1 x1 v3 v4 v7 v9 r3.2)
  else
  (z_b (gR r3.2 v0 3 8) fun x5 =>
  z_b (gI r3.2 x5 5 0) fun x6 =>
  z_b (gO r3.2 v0 3) fun u7 =>
  z_b (f_Ed_draftPart N v0 v4 x6 r3.2) fun r8 =>
  zx_k r8 fun x9 h10 =>
  z_b (gO h10 v0 3) fun u13 =>
  z_b (f_Ed_draftReplacement N v0 v1 h10) fun r14 =>
  zx_k r14 fun x15 h16 =>
  z_b (gR h16 v0 3 8) fun x19 =>
  z_b (gI h16 x19 5 1) fun x20 =>
  z_b (some (v3 + 1)) fun x21 =>
  f_Ed_substitute_177 N k23 v0 v1 x1 x21 x20 v7 v9 h16)
set_option maxRecDepth 20000 in
set_option maxHeartbeats 2000000 in
theorem s_Ed_substitute_136 (X : z_X p s m args meth c prog_5_method_26_code 10 none Ts "StreamForge$Editor" D dA B) {N : Nat} {r : Unit ⊕ String} (hlt : l.stackTraces = false) (hno : ∀ x ∈ c.exceptionTable.toList, False) (hSt : z_St B s s.heap) {h' : z_H} {k23 : Nat → Nat → Int32 → Int32 → Int32 → Int32 → Int32 → Int32 → z_H → Option ((Unit ⊕ String) × z_H)} (hk23 : ∀ (v0 : Nat) (v1 : Nat) (v2 : Int32) (v3 : Int32) (v4 : Int32) (v5 : Int32) (v6 : Int32) (v7 : Int32) (h : z_H) (H : Heap) (locs : List Loc) (ls : Array Slot), z_I D dA B h s.heap H locs → lv_has ls 10 [(0, .ref v0), (1, .ref v1), (2, .int v2), (3, .int v3), (4, .int v4), (5, .int v5), (6, .int v6), (7, .int v7)] → k23 v0 v1 v2 v3 v4 v5 v6 v7 h = some (r, h') → W p l e (zx_rm 8 142) s m args below meth c H locs 0 0 (zx_MQ below D dA B (zx_rv r) h' args s) (F0 m 23 ls [])) : ∀ (v0 : Nat) (v1 : Nat) (v2 : Int32) (v3 : Int32) (v4 : Int32) (v7 : Int32) (v9 : Int32) (h : z_H) (H : Heap) (locs : List Loc) (ls : Array Slot), z_I D dA B h s.heap H locs → lv_has ls 10 [(0, .ref v0), (1, .ref v1), (2, .int v2), (3, .int v3), (4, .int v4), (7, .int v7), (9, .int v9)] → f_Ed_substitute_136 N k23 v0 v1 v2 v3 v4 v7 v9 h = some (r, h') → W p l e (zx_rm 8 142) s m args below meth c H locs 0 0 (zx_MQ below D dA B (zx_rv r) h' args s) (F0 m 136 ls []) := by
  have hx := z_hx X
  have hb := z_hb X
  intro v0 v1 v2 v3 v4 v7 v9 h H locs ls hI hl hf
  unfold f_Ed_substitute_136 at hf
  obtain ⟨x1, ex1, hf⟩ := z_bs hf
  refine lv_iinc (v := x1) (lv' := [(2, .int x1), (0, .ref v0), (1, .ref v1), (3, .int v3), (4, .int v4), (7, .int v7), (9, .int v9)]) hx hb d_Ed_substitute_136 hl (k := 2) rfl (by rw [← Option.some.inj ex1]; rfl) (by decide) rfl (fun ls hl => ?_)
  refine lv_aload_n hx hb d_Ed_substitute_139 rfl (lv_at hl 2 rfl) ?_
  refine lv_iload_n hx hb d_Ed_substitute_140 rfl (lv_at hl 0 rfl) ?_
  obtain ⟨u2, eu2, hf⟩ := z_bs hf
  obtain ⟨r3, er3, hf⟩ := z_bs hf
  refine z_callV (As := [.int x1]) (rest := []) (r := (some (.int r3.1))) (h' := r3.2) X hI eu2 (s_Cmd_replaces er3) rfl rfl wm_Ed_262 yi_Cmd_replaces rfl hl.1 rfl (Nat.le_of_ble_eq_true rfl) (by decide) (by decide) d_Ed_substitute_141 (fun H locs hI => ?_)
  refine W.eq (g2 := F0 m 144 ls [.int (r3.1)]) rfl ?_
  refine lv_if_eq (tgt := 177) hx hb d_Ed_substitute_144 (by decide) (fun c4 => ?_) (fun c4 => ?_)
  · rw [if_pos c4] at hf
    exact s_Ed_substitute_177 X hlt hno hSt hk23 v0 v1 x1 v3 v4 v7 v9 r3.2 _ _ _ hI (lv_sub hl [1, 2, 0, 3, 4, 5, 6] rfl) hf
  · rw [if_neg c4] at hf
    refine lv_aload_n hx hb d_Ed_substitute_147 rfl (lv_at hl 1 rfl) ?_
    refine lv_iload hx hb d_Ed_substitute_148 (lv_at hl 4 rfl) ?_
    refine lv_aload_n hx hb d_Ed_substitute_150 rfl (lv_at hl 1 rfl) ?_
    obtain ⟨x5, ex5, hf⟩ := z_bs hf
    refine z_getF X hI (k := 8) (ci := 3) (gR_s ex5) i_Ed rfl (by decide) wf_Ed_32 d_Ed_substitute_151 ?_
    obtain ⟨x6, ex6, hf⟩ := z_bs hf
    refine z_getF X hI (k := 0) (ci := 5) (gI_s ex6) i_Ma rfl (by decide) wf_Ed_257 d_Ed_substitute_154 ?_
    obtain ⟨u7, eu7, hf⟩ := z_bs hf
    obtain ⟨r8, er8, hf⟩ := z_bs hf
    obtain ⟨q11, h10⟩ := r8
    rcases q11 with x9 | E12
    · have hf := zx_kl hf
      refine zx_callV (r := .inl none) (As := [.int v4, .int x6]) (rest := []) (h' := h10) X hSt hI eu7 (s_Ed_draftPart hlt er8) rfl rfl wm_Ed_265 yi_Ed_draftPart rfl hl.1 rfl (Nat.le_of_ble_eq_true rfl) (by decide) (by decide) d_Ed_substitute_157 (fun v er H locs hI => ?_) (fun E er => by cases er)
      cases er
      refine W.eq (g2 := F0 m 160 ls []) rfl ?_
      refine lv_aload_n hx hb d_Ed_substitute_160 rfl (lv_at hl 1 rfl) ?_
      refine lv_aload_n hx hb d_Ed_substitute_161 rfl (lv_at hl 2 rfl) ?_
      obtain ⟨u13, eu13, hf⟩ := z_bs hf
      obtain ⟨r14, er14, hf⟩ := z_bs hf
      obtain ⟨q17, h16⟩ := r14
      rcases q17 with x15 | E18
      · have hf := zx_kl hf
        refine zx_callV (r := .inl none) (As := [.ref v1]) (rest := []) (h' := h16) X hSt hI eu13 (s_Ed_draftReplacement hlt er14) rfl rfl wm_Ed_269 yi_Ed_draftReplacement rfl hl.1 rfl (Nat.le_of_ble_eq_true rfl) (by decide) (by decide) d_Ed_substitute_162 (fun v er H locs hI => ?_) (fun E er => by cases er)
        cases er
        refine W.eq (g2 := F0 m 165 ls []) rfl ?_
        refine lv_aload_n hx hb d_Ed_substitute_165 rfl (lv_at hl 1 rfl) ?_
        obtain ⟨x19, ex19, hf⟩ := z_bs hf
        refine z_getF X hI (k := 8) (ci := 3) (gR_s ex19) i_Ed rfl (by decide) wf_Ed_32 d_Ed_substitute_166 ?_
        obtain ⟨x20, ex20, hf⟩ := z_bs hf
        refine z_getF X hI (k := 1) (ci := 5) (gI_s ex20) i_Ma rfl (by decide) wf_Ed_259 d_Ed_substitute_169 ?_
        refine lv_istore (lv' := [(4, .int x20), (2, .int x1), (0, .ref v0), (1, .ref v1), (3, .int v3), (7, .int v7), (9, .int v9)]) hx hb d_Ed_substitute_172 hl (by decide) rfl (fun ls hl => ?_)
        obtain ⟨x21, ex21, hf⟩ := z_bs hf
        refine lv_iinc (v := x21) (lv' := [(3, .int x21), (4, .int x20), (2, .int x1), (0, .ref v0), (1, .ref v1), (7, .int v7), (9, .int v9)]) hx hb d_Ed_substitute_174 hl (k := 4) rfl (by rw [← Option.some.inj ex21]; rfl) (by decide) rfl (fun ls hl => ?_)
        exact s_Ed_substitute_177 X hlt hno hSt hk23 v0 v1 x1 x21 x20 v7 v9 h16 _ _ _ hI (lv_sub hl [3, 4, 2, 0, 1, 5, 6] rfl) hf
      · cases zx_kr hf
        exact zx_callV (r := .inr E18) (As := [.ref v1]) (rest := []) X hSt hI eu13 (s_Ed_draftReplacement hlt er14) rfl rfl wm_Ed_269 yi_Ed_draftReplacement rfl hl.1 rfl (Nat.le_of_ble_eq_true rfl) (by decide) (by decide) d_Ed_substitute_162 (fun v er => by cases er) (fun E er H locs q ce hI hce hcv hcl => by cases er; exact zx_out X hno hI hce hcv hcl)
    · cases zx_kr hf
      exact zx_callV (r := .inr E12) (As := [.int v4, .int x6]) (rest := []) X hSt hI eu7 (s_Ed_draftPart hlt er8) rfl rfl wm_Ed_265 yi_Ed_draftPart rfl hl.1 rfl (Nat.le_of_ble_eq_true rfl) (by decide) (by decide) d_Ed_substitute_157 (fun v er => by cases er) (fun E er H locs q ce hI hce hcv hcl => by cases er; exact zx_out X hno hI hce hcv hcl)
def f_Ed_substitute_117 (N : Nat) (k23 : Nat → Nat → Int32 → Int32 → Int32 → Int32 → Int32 → Int32 → z_H → Option ((Unit ⊕ String) × z_H)) (v0 : Nat) (v1 : Nat) (v2 : Int32) (v3 : Int32) (v4 : Int32) (v5 : Int32) (v7 : Int32) (s0 : Int32) (h : z_H) : Option ((Unit ⊕ String) × z_H) :=
  if s0 = 0 then
  (f_Ed_substitute_136 N k23 v0 v1 v2 v3 v4 v7 s0 h)
  else
  (z_b (gR h v0 3 8) fun x2 =>
  z_b (gI h x2 5 0) fun x3 =>
  if x3 = v5 then
  (f_Ed_substitute_177 N k23 v0 v1 v2 v3 v4 v7 s0 h)
  else
  (f_Ed_substitute_136 N k23 v0 v1 v2 v3 v4 v7 s0 h))
set_option maxRecDepth 20000 in
set_option maxHeartbeats 2000000 in
theorem s_Ed_substitute_117 (X : z_X p s m args meth c prog_5_method_26_code 10 none Ts "StreamForge$Editor" D dA B) {N : Nat} {r : Unit ⊕ String} (hlt : l.stackTraces = false) (hno : ∀ x ∈ c.exceptionTable.toList, False) (hSt : z_St B s s.heap) {h' : z_H} {k23 : Nat → Nat → Int32 → Int32 → Int32 → Int32 → Int32 → Int32 → z_H → Option ((Unit ⊕ String) × z_H)} (hk23 : ∀ (v0 : Nat) (v1 : Nat) (v2 : Int32) (v3 : Int32) (v4 : Int32) (v5 : Int32) (v6 : Int32) (v7 : Int32) (h : z_H) (H : Heap) (locs : List Loc) (ls : Array Slot), z_I D dA B h s.heap H locs → lv_has ls 10 [(0, .ref v0), (1, .ref v1), (2, .int v2), (3, .int v3), (4, .int v4), (5, .int v5), (6, .int v6), (7, .int v7)] → k23 v0 v1 v2 v3 v4 v5 v6 v7 h = some (r, h') → W p l e (zx_rm 8 142) s m args below meth c H locs 0 0 (zx_MQ below D dA B (zx_rv r) h' args s) (F0 m 23 ls [])) : ∀ (v0 : Nat) (v1 : Nat) (v2 : Int32) (v3 : Int32) (v4 : Int32) (v5 : Int32) (v7 : Int32) (s0 : Int32) (h : z_H) (H : Heap) (locs : List Loc) (ls : Array Slot), z_I D dA B h s.heap H locs → lv_has ls 10 [(0, .ref v0), (1, .ref v1), (2, .int v2), (3, .int v3), (4, .int v4), (5, .int v5), (7, .int v7)] → f_Ed_substitute_117 N k23 v0 v1 v2 v3 v4 v5 v7 s0 h = some (r, h') → W p l e (zx_rm 8 142) s m args below meth c H locs 0 0 (zx_MQ below D dA B (zx_rv r) h' args s) (F0 m 117 ls [.int s0]) := by
  have hx := z_hx X
  have hb := z_hb X
  intro v0 v1 v2 v3 v4 v5 v7 s0 h H locs ls hI hl hf
  unfold f_Ed_substitute_117 at hf
  refine lv_istore (lv' := [(9, .int s0), (0, .ref v0), (1, .ref v1), (2, .int v2), (3, .int v3), (4, .int v4), (5, .int v5), (7, .int v7)]) hx hb d_Ed_substitute_117 hl (by decide) rfl (fun ls hl => ?_)
  refine lv_iload hx hb d_Ed_substitute_119 (lv_at hl 0 rfl) ?_
  refine lv_if_eq (tgt := 136) hx hb d_Ed_substitute_121 (by decide) (fun c1 => ?_) (fun c1 => ?_)
  · rw [if_pos c1] at hf
    exact s_Ed_substitute_136 X hlt hno hSt hk23 v0 v1 v2 v3 v4 v7 s0 h _ _ _ hI (lv_sub hl [1, 2, 3, 4, 5, 7, 0] rfl) hf
  · rw [if_neg c1] at hf
    refine lv_aload_n hx hb d_Ed_substitute_124 rfl (lv_at hl 1 rfl) ?_
    obtain ⟨x2, ex2, hf⟩ := z_bs hf
    refine z_getF X hI (k := 8) (ci := 3) (gR_s ex2) i_Ed rfl (by decide) wf_Ed_32 d_Ed_substitute_125 ?_
    obtain ⟨x3, ex3, hf⟩ := z_bs hf
    refine z_getF X hI (k := 0) (ci := 5) (gI_s ex3) i_Ma rfl (by decide) wf_Ed_257 d_Ed_substitute_128 ?_
    refine lv_iload hx hb d_Ed_substitute_131 (lv_at hl 6 rfl) ?_
    refine lv_icmp_eq (tgt := 177) hx hb d_Ed_substitute_133 (by decide) (fun c4 => ?_) (fun c4 => ?_)
    · rw [if_pos c4] at hf
      exact s_Ed_substitute_177 X hlt hno hSt hk23 v0 v1 v2 v3 v4 v7 s0 h _ _ _ hI (lv_sub hl [1, 2, 3, 4, 5, 7, 0] rfl) hf
    · rw [if_neg c4] at hf
      exact s_Ed_substitute_136 X hlt hno hSt hk23 v0 v1 v2 v3 v4 v7 s0 h _ _ _ hI (lv_sub hl [1, 2, 3, 4, 5, 7, 0] rfl) hf
def f_Ed_substitute_218 (N : Nat)  (v0 : Nat) (v1 : Nat) (v3 : Int32) (v4 : Int32) (h : z_H) : Option ((Unit ⊕ String) × z_H) :=
  z_b (gR h v0 3 1) fun x1 =>
  z_b (gI h x1 10 1) fun x2 =>
  z_b (gO h v0 3) fun u3 =>
  z_b (f_Ed_draftPart N v0 v4 x2 h) fun r4 =>
  zx_k r4 fun x5 h6 =>
  if v3 ≤ 0 then
  (some (.inl (), h6))
  else
  (z_b (gO h6 v0 3) fun u10 =>
  z_b (f_Ed_takeDraft N v0 v1 v3 h6) fun r11 =>
  zx_k r11 fun x12 h13 =>
  some (.inl (), h13))
set_option maxRecDepth 20000 in
set_option maxHeartbeats 2000000 in
theorem s_Ed_substitute_218 (X : z_X p s m args meth c prog_5_method_26_code 10 none Ts "StreamForge$Editor" D dA B) {N : Nat} {r : Unit ⊕ String} (hlt : l.stackTraces = false) (hno : ∀ x ∈ c.exceptionTable.toList, False) (hSt : z_St B s s.heap) {h' : z_H}   : ∀ (v0 : Nat) (v1 : Nat) (v3 : Int32) (v4 : Int32) (h : z_H) (H : Heap) (locs : List Loc) (ls : Array Slot), z_I D dA B h s.heap H locs → lv_has ls 10 [(0, .ref v0), (1, .ref v1), (3, .int v3), (4, .int v4)] → f_Ed_substitute_218 N  v0 v1 v3 v4 h = some (r, h') → W p l e (zx_rm 8 142) s m args below meth c H locs 0 0 (zx_MQ below D dA B (zx_rv r) h' args s) (F0 m 218 ls []) := by
  have hx := z_hx X
  have hb := z_hb X
  intro v0 v1 v3 v4 h H locs ls hI hl hf
  unfold f_Ed_substitute_218 at hf
  refine lv_aload_n hx hb d_Ed_substitute_218 rfl (lv_at hl 0 rfl) ?_
  refine lv_iload hx hb d_Ed_substitute_219 (lv_at hl 3 rfl) ?_
  refine lv_aload_n hx hb d_Ed_substitute_221 rfl (lv_at hl 0 rfl) ?_
  obtain ⟨x1, ex1, hf⟩ := z_bs hf
  refine z_getF X hI (k := 1) (ci := 3) (gR_s ex1) i_Ed rfl (by decide) wf_Ed_20 d_Ed_substitute_222 ?_
  obtain ⟨x2, ex2, hf⟩ := z_bs hf
  refine z_getF X hI (k := 1) (ci := 10) (gI_s ex2) i_Row rfl (by decide) wf_Ed_123 d_Ed_substitute_225 ?_
  obtain ⟨u3, eu3, hf⟩ := z_bs hf
  obtain ⟨r4, er4, hf⟩ := z_bs hf
  obtain ⟨q7, h6⟩ := r4
  rcases q7 with x5 | E8
  · have hf := zx_kl hf
    refine zx_callV (r := .inl none) (As := [.int v4, .int x2]) (rest := []) (h' := h6) X hSt hI eu3 (s_Ed_draftPart hlt er4) rfl rfl wm_Ed_265 yi_Ed_draftPart rfl hl.1 rfl (Nat.le_of_ble_eq_true rfl) (by decide) (by decide) d_Ed_substitute_228 (fun v er H locs hI => ?_) (fun E er => by cases er)
    cases er
    refine W.eq (g2 := F0 m 231 ls []) rfl ?_
    refine lv_iload_n hx hb d_Ed_substitute_231 rfl (lv_at hl 2 rfl) ?_
    refine lv_if_le (tgt := 241) hx hb d_Ed_substitute_232 (by decide) (fun c9 => ?_) (fun c9 => ?_)
    · rw [if_pos c9] at hf
      cases hf
      exact zx_ret (z_vret X hI d_Ed_substitute_241)
    · rw [if_neg c9] at hf
      refine lv_aload_n hx hb d_Ed_substitute_235 rfl (lv_at hl 0 rfl) ?_
      refine lv_aload_n hx hb d_Ed_substitute_236 rfl (lv_at hl 1 rfl) ?_
      refine lv_iload_n hx hb d_Ed_substitute_237 rfl (lv_at hl 2 rfl) ?_
      obtain ⟨u10, eu10, hf⟩ := z_bs hf
      obtain ⟨r11, er11, hf⟩ := z_bs hf
      obtain ⟨q14, h13⟩ := r11
      rcases q14 with x12 | E15
      · have hf := zx_kl hf
        refine zx_callV (r := .inl none) (As := [.ref v1, .int v3]) (rest := []) (h' := h13) X hSt hI eu10 (s_Ed_takeDraft hlt er11) rfl rfl wm_Ed_272 yi_Ed_takeDraft rfl hl.1 rfl (Nat.le_of_ble_eq_true rfl) (by decide) (by decide) d_Ed_substitute_238 (fun v er H locs hI => ?_) (fun E er => by cases er)
        cases er
        refine W.eq (g2 := F0 m 241 ls []) rfl ?_
        cases hf
        exact zx_ret (z_vret X hI d_Ed_substitute_241)
      · cases zx_kr hf
        exact zx_callV (r := .inr E15) (As := [.ref v1, .int v3]) (rest := []) X hSt hI eu10 (s_Ed_takeDraft hlt er11) rfl rfl wm_Ed_272 yi_Ed_takeDraft rfl hl.1 rfl (Nat.le_of_ble_eq_true rfl) (by decide) (by decide) d_Ed_substitute_238 (fun v er => by cases er) (fun E er H locs q ce hI hce hcv hcl => by cases er; exact zx_out X hno hI hce hcv hcl)
  · cases zx_kr hf
    exact zx_callV (r := .inr E8) (As := [.int v4, .int x2]) (rest := []) X hSt hI eu3 (s_Ed_draftPart hlt er4) rfl rfl wm_Ed_265 yi_Ed_draftPart rfl hl.1 rfl (Nat.le_of_ble_eq_true rfl) (by decide) (by decide) d_Ed_substitute_228 (fun v er => by cases er) (fun E er H locs q ce hI hce hcv hcl => by cases er; exact zx_out X hno hI hce hcv hcl)
def f_Ed_substitute_58 (N : Nat) (k23 : Nat → Nat → Int32 → Int32 → Int32 → Int32 → Int32 → Int32 → z_H → Option ((Unit ⊕ String) × z_H)) (v0 : Nat) (v1 : Nat) (v2 : Int32) (v3 : Int32) (v4 : Int32) (v5 : Int32) (v6 : Int32) (v7 : Int32) (s0 : Int32) (h : z_H) : Option ((Unit ⊕ String) × z_H) :=
  if s0 = 0 then
  (z_b (gR h v0 3 8) fun x2 =>
  z_b (gR h v0 3 10) fun x3 =>
  z_b (gR h x3 9 1) fun x4 =>
  z_b (gR h v1 1 2) fun x5 =>
  z_b (gR h v0 3 1) fun x6 =>
  z_b (gO h x2 5) fun u7 =>
  z_b (f_Ma_find N x2 x4 x5 x6 v6 h) fun r8 =>
  if (r8.1) = 0 then
  (f_Ed_substitute_218 N v0 v1 v3 v4 r8.2)
  else
  (z_b (gR r8.2 v0 3 8) fun x10 =>
  z_b (gI r8.2 x10 5 0) fun x11 =>
  z_b (gR r8.2 v0 3 8) fun x12 =>
  z_b (gI r8.2 x12 5 1) fun x13 =>
  if x11 = x13 then
  (f_Ed_substitute_117 N k23 v0 v1 v2 v3 v4 v5 v7 1 r8.2)
  else
  (f_Ed_substitute_117 N k23 v0 v1 v2 v3 v4 v5 v7 0 r8.2)))
  else
  (f_Ed_substitute_218 N v0 v1 v3 v4 h)
set_option maxRecDepth 20000 in
set_option maxHeartbeats 2000000 in
theorem s_Ed_substitute_58 (X : z_X p s m args meth c prog_5_method_26_code 10 none Ts "StreamForge$Editor" D dA B) {N : Nat} {r : Unit ⊕ String} (hlt : l.stackTraces = false) (hno : ∀ x ∈ c.exceptionTable.toList, False) (hSt : z_St B s s.heap) {h' : z_H} {k23 : Nat → Nat → Int32 → Int32 → Int32 → Int32 → Int32 → Int32 → z_H → Option ((Unit ⊕ String) × z_H)} (hk23 : ∀ (v0 : Nat) (v1 : Nat) (v2 : Int32) (v3 : Int32) (v4 : Int32) (v5 : Int32) (v6 : Int32) (v7 : Int32) (h : z_H) (H : Heap) (locs : List Loc) (ls : Array Slot), z_I D dA B h s.heap H locs → lv_has ls 10 [(0, .ref v0), (1, .ref v1), (2, .int v2), (3, .int v3), (4, .int v4), (5, .int v5), (6, .int v6), (7, .int v7)] → k23 v0 v1 v2 v3 v4 v5 v6 v7 h = some (r, h') → W p l e (zx_rm 8 142) s m args below meth c H locs 0 0 (zx_MQ below D dA B (zx_rv r) h' args s) (F0 m 23 ls [])) : ∀ (v0 : Nat) (v1 : Nat) (v2 : Int32) (v3 : Int32) (v4 : Int32) (v5 : Int32) (v6 : Int32) (v7 : Int32) (s0 : Int32) (h : z_H) (H : Heap) (locs : List Loc) (ls : Array Slot), z_I D dA B h s.heap H locs → lv_has ls 10 [(0, .ref v0), (1, .ref v1), (2, .int v2), (3, .int v3), (4, .int v4), (5, .int v5), (6, .int v6), (7, .int v7)] → f_Ed_substitute_58 N k23 v0 v1 v2 v3 v4 v5 v6 v7 s0 h = some (r, h') → W p l e (zx_rm 8 142) s m args below meth c H locs 0 0 (zx_MQ below D dA B (zx_rv r) h' args s) (F0 m 58 ls [.int s0]) := by
  have hx := z_hx X
  have hb := z_hb X
  intro v0 v1 v2 v3 v4 v5 v6 v7 s0 h H locs ls hI hl hf
  unfold f_Ed_substitute_58 at hf
  refine lv_istore (lv' := [(8, .int s0), (0, .ref v0), (1, .ref v1), (2, .int v2), (3, .int v3), (4, .int v4), (5, .int v5), (6, .int v6), (7, .int v7)]) hx hb d_Ed_substitute_58 hl (by decide) rfl (fun ls hl => ?_)
  refine lv_iload hx hb d_Ed_substitute_60 (lv_at hl 0 rfl) ?_
  refine lv_if_ne (tgt := 218) hx hb d_Ed_substitute_62 (by decide) (fun c1 => ?_) (fun c1 => ?_)
  · rw [if_neg c1] at hf
    exact s_Ed_substitute_218 X hlt hno hSt  v0 v1 v3 v4 h _ _ _ hI (lv_sub hl [1, 2, 4, 5] rfl) hf
  · rw [if_pos c1] at hf
    refine lv_aload_n hx hb d_Ed_substitute_65 rfl (lv_at hl 1 rfl) ?_
    obtain ⟨x2, ex2, hf⟩ := z_bs hf
    refine z_getF X hI (k := 8) (ci := 3) (gR_s ex2) i_Ed rfl (by decide) wf_Ed_32 d_Ed_substitute_66 ?_
    refine lv_aload_n hx hb d_Ed_substitute_69 rfl (lv_at hl 1 rfl) ?_
    obtain ⟨x3, ex3, hf⟩ := z_bs hf
    refine z_getF X hI (k := 10) (ci := 3) (gR_s ex3) i_Ed rfl (by decide) wf_Ed_39 d_Ed_substitute_70 ?_
    obtain ⟨x4, ex4, hf⟩ := z_bs hf
    refine z_getF X hI (k := 1) (ci := 9) (gR_s ex4) i_Prog rfl (by decide) wf_Ed_179 d_Ed_substitute_73 ?_
    refine lv_aload_n hx hb d_Ed_substitute_76 rfl (lv_at hl 2 rfl) ?_
    obtain ⟨x5, ex5, hf⟩ := z_bs hf
    refine z_getF X hI (k := 2) (ci := 1) (gR_s ex5) i_Cmd rfl (by decide) wf_Ed_256 d_Ed_substitute_77 ?_
    refine lv_aload_n hx hb d_Ed_substitute_80 rfl (lv_at hl 1 rfl) ?_
    obtain ⟨x6, ex6, hf⟩ := z_bs hf
    refine z_getF X hI (k := 1) (ci := 3) (gR_s ex6) i_Ed rfl (by decide) wf_Ed_20 d_Ed_substitute_81 ?_
    refine lv_iload hx hb d_Ed_substitute_84 (lv_at hl 7 rfl) ?_
    obtain ⟨u7, eu7, hf⟩ := z_bs hf
    obtain ⟨r8, er8, hf⟩ := z_bs hf
    refine z_callV (As := [.ref x4, .ref x5, .ref x6, .int v6]) (rest := []) (r := (some (.int r8.1))) (h' := r8.2) X hI eu7 (s_Ma_find er8) rfl rfl wm_Ed_187 yi_Ma_find rfl hl.1 rfl (Nat.le_of_ble_eq_true rfl) (by decide) (by decide) d_Ed_substitute_86 (fun H locs hI => ?_)
    refine W.eq (g2 := F0 m 89 ls [.int (r8.1)]) rfl ?_
    refine lv_if_ne (tgt := 95) hx hb d_Ed_substitute_89 (by decide) (fun c9 => ?_) (fun c9 => ?_)
    · rw [if_neg c9] at hf
      refine lv_aload_n hx hb d_Ed_substitute_95 rfl (lv_at hl 1 rfl) ?_
      obtain ⟨x10, ex10, hf⟩ := z_bs hf
      refine z_getF X hI (k := 8) (ci := 3) (gR_s ex10) i_Ed rfl (by decide) wf_Ed_32 d_Ed_substitute_96 ?_
      obtain ⟨x11, ex11, hf⟩ := z_bs hf
      refine z_getF X hI (k := 0) (ci := 5) (gI_s ex11) i_Ma rfl (by decide) wf_Ed_257 d_Ed_substitute_99 ?_
      refine lv_aload_n hx hb d_Ed_substitute_102 rfl (lv_at hl 1 rfl) ?_
      obtain ⟨x12, ex12, hf⟩ := z_bs hf
      refine z_getF X hI (k := 8) (ci := 3) (gR_s ex12) i_Ed rfl (by decide) wf_Ed_32 d_Ed_substitute_103 ?_
      obtain ⟨x13, ex13, hf⟩ := z_bs hf
      refine z_getF X hI (k := 1) (ci := 5) (gI_s ex13) i_Ma rfl (by decide) wf_Ed_259 d_Ed_substitute_106 ?_
      refine lv_icmp_ne (tgt := 116) hx hb d_Ed_substitute_109 (by decide) (fun c14 => ?_) (fun c14 => ?_)
      · rw [if_neg c14] at hf
        refine lv_iconst (v := 0) hx hb d_Ed_substitute_116 (by decide) ?_
        exact s_Ed_substitute_117 X hlt hno hSt hk23 v0 v1 v2 v3 v4 v5 v7 0 r8.2 _ _ _ hI (lv_sub hl [1, 2, 3, 4, 5, 6, 8] rfl) hf
      · rw [if_pos c14] at hf
        refine lv_iconst (v := 1) hx hb d_Ed_substitute_112 (by decide) ?_
        refine lv_goto (tgt := 117) hx hb d_Ed_substitute_113 (by decide) ?_
        exact s_Ed_substitute_117 X hlt hno hSt hk23 v0 v1 v2 v3 v4 v5 v7 1 r8.2 _ _ _ hI (lv_sub hl [1, 2, 3, 4, 5, 6, 8] rfl) hf
    · rw [if_pos c9] at hf
      refine lv_goto (tgt := 218) hx hb d_Ed_substitute_92 (by decide) ?_
      exact s_Ed_substitute_218 X hlt hno hSt  v0 v1 v3 v4 r8.2 _ _ _ hI (lv_sub hl [1, 2, 4, 5] rfl) hf
def f_Ed_substitute_23 (N : Nat)  : Nat → Nat → Nat → Int32 → Int32 → Int32 → Int32 → Int32 → Int32 → z_H → Option ((Unit ⊕ String) × z_H)
  | 0, _, _, _, _, _, _, _, _, _ => none
  | n + 1, v0, v1, v2, v3, v4, v5, v6, v7, h =>
    if 60 < v7 then
    (f_Ed_substitute_218 N v0 v1 v3 v4 h)
    else
    (z_b (gR h v0 3 1) fun x2 =>
    z_b (gI h x2 10 1) fun x3 =>
    if x3 < v6 then
    (f_Ed_substitute_218 N v0 v1 v3 v4 h)
    else
    (if v3 ≤ 0 then
    (f_Ed_substitute_58 N (f_Ed_substitute_23 N  n) v0 v1 v2 v3 v4 v5 v6 v7 0 h)
    else
    (z_b (gI h v1 1 12) fun x6 =>
    if x6 = 0 then
    (f_Ed_substitute_58 N (f_Ed_substitute_23 N  n) v0 v1 v2 v3 v4 v5 v6 v7 1 h)
    else
    (f_Ed_substitute_58 N (f_Ed_substitute_23 N  n) v0 v1 v2 v3 v4 v5 v6 v7 0 h))))
set_option maxRecDepth 20000 in
set_option maxHeartbeats 2000000 in
theorem s_Ed_substitute_23 (X : z_X p s m args meth c prog_5_method_26_code 10 none Ts "StreamForge$Editor" D dA B) {N : Nat} {r : Unit ⊕ String} (hlt : l.stackTraces = false) (hno : ∀ x ∈ c.exceptionTable.toList, False) (hSt : z_St B s s.heap) {h' : z_H}   : ∀ n : Nat, ∀ (v0 : Nat) (v1 : Nat) (v2 : Int32) (v3 : Int32) (v4 : Int32) (v5 : Int32) (v6 : Int32) (v7 : Int32) (h : z_H) (H : Heap) (locs : List Loc) (ls : Array Slot), z_I D dA B h s.heap H locs → lv_has ls 10 [(0, .ref v0), (1, .ref v1), (2, .int v2), (3, .int v3), (4, .int v4), (5, .int v5), (6, .int v6), (7, .int v7)] → f_Ed_substitute_23 N  n v0 v1 v2 v3 v4 v5 v6 v7 h = some (r, h') → W p l e (zx_rm 8 142) s m args below meth c H locs 0 0 (zx_MQ below D dA B (zx_rv r) h' args s) (F0 m 23 ls []) := by
  have hx := z_hx X
  have hb := z_hb X
  intro n
  induction n with
  | zero => intro v0 v1 v2 v3 v4 v5 v6 v7 h H locs ls hI hl hf; rw [f_Ed_substitute_23] at hf; cases hf
  | succ n ih =>
    intro v0 v1 v2 v3 v4 v5 v6 v7 h H locs ls hI hl hf
    rw [f_Ed_substitute_23] at hf
    refine lv_iload hx hb d_Ed_substitute_23 (lv_at hl 7 rfl) ?_
    refine lv_bipush (v := 60) hx hb d_Ed_substitute_25 (by decide) ?_
    refine lv_icmp_gt (tgt := 218) hx hb d_Ed_substitute_27 (by decide) (fun c1 => ?_) (fun c1 => ?_)
    · rw [if_pos c1] at hf
      exact s_Ed_substitute_218 X hlt hno hSt  v0 v1 v3 v4 h _ _ _ hI (lv_sub hl [0, 1, 3, 4] rfl) hf
    · rw [if_neg c1] at hf
      refine lv_iload hx hb d_Ed_substitute_30 (lv_at hl 6 rfl) ?_
      refine lv_aload_n hx hb d_Ed_substitute_32 rfl (lv_at hl 0 rfl) ?_
      obtain ⟨x2, ex2, hf⟩ := z_bs hf
      refine z_getF X hI (k := 1) (ci := 3) (gR_s ex2) i_Ed rfl (by decide) wf_Ed_20 d_Ed_substitute_33 ?_
      obtain ⟨x3, ex3, hf⟩ := z_bs hf
      refine z_getF X hI (k := 1) (ci := 10) (gI_s ex3) i_Row rfl (by decide) wf_Ed_123 d_Ed_substitute_36 ?_
      refine lv_icmp_gt (tgt := 218) hx hb d_Ed_substitute_39 (by decide) (fun c4 => ?_) (fun c4 => ?_)
      · rw [if_pos c4] at hf
        exact s_Ed_substitute_218 X hlt hno hSt  v0 v1 v3 v4 h _ _ _ hI (lv_sub hl [0, 1, 3, 4] rfl) hf
      · rw [if_neg c4] at hf
        refine lv_iload_n hx hb d_Ed_substitute_42 rfl (lv_at hl 3 rfl) ?_
        refine lv_if_le (tgt := 57) hx hb d_Ed_substitute_43 (by decide) (fun c5 => ?_) (fun c5 => ?_)
        · rw [if_pos c5] at hf
          refine lv_iconst (v := 0) hx hb d_Ed_substitute_57 (by decide) ?_
          exact s_Ed_substitute_58 X hlt hno hSt ih v0 v1 v2 v3 v4 v5 v6 v7 0 h _ _ _ hI (lv_sub hl [0, 1, 2, 3, 4, 5, 6, 7] rfl) hf
        · rw [if_neg c5] at hf
          refine lv_aload_n hx hb d_Ed_substitute_46 rfl (lv_at hl 1 rfl) ?_
          obtain ⟨x6, ex6, hf⟩ := z_bs hf
          refine z_getF X hI (k := 12) (ci := 1) (gI_s ex6) i_Cmd rfl (by decide) wf_Ed_253 d_Ed_substitute_47 ?_
          refine lv_if_ne (tgt := 57) hx hb d_Ed_substitute_50 (by decide) (fun c7 => ?_) (fun c7 => ?_)
          · rw [if_neg c7] at hf
            refine lv_iconst (v := 0) hx hb d_Ed_substitute_57 (by decide) ?_
            exact s_Ed_substitute_58 X hlt hno hSt ih v0 v1 v2 v3 v4 v5 v6 v7 0 h _ _ _ hI (lv_sub hl [0, 1, 2, 3, 4, 5, 6, 7] rfl) hf
          · rw [if_pos c7] at hf
            refine lv_iconst (v := 1) hx hb d_Ed_substitute_53 (by decide) ?_
            refine lv_goto (tgt := 58) hx hb d_Ed_substitute_54 (by decide) ?_
            exact s_Ed_substitute_58 X hlt hno hSt ih v0 v1 v2 v3 v4 v5 v6 v7 1 h _ _ _ hI (lv_sub hl [0, 1, 2, 3, 4, 5, 6, 7] rfl) hf
def f_Ed_substitute (N : Nat) (v0 : Nat) (v1 : Nat) (h : z_H) : Option ((Unit ⊕ String) × z_H) :=
  z_b (gR h v0 3 9) fun x1 =>
  z_b (gO h x1 10) fun u2 =>
  z_b (f_Row_empty N x1 h) fun r3 =>
  z_b (some ((-1))) fun x4 =>
  f_Ed_substitute_23 N N v0 v1 0 0 0 x4 0 0 r3
set_option maxRecDepth 20000 in
set_option maxHeartbeats 2000000 in
theorem s_Ed_substitute {l : Launch} (hlt : l.stackTraces = false) {D : va_G} {dA : Nat → ClassId} {B N : Nat} {v0 : Nat} {v1 : Nat} {h h' : z_H} {r : Unit ⊕ String} (hf : f_Ed_substitute N v0 v1 h = some (r, h')) : zx_Met l y_Ed_substitute prog_5_method_26_code 10 none 8 142 D dA B [.ref v0, .ref v1] h (zx_rv r) h' := by
  refine zx_of (by decide) (Nat.le_of_ble_eq_true rfl) (fun p e s m below meth c ls X hno hSt hI hl => ?_)
  have hx := z_hx X
  have hb := z_hb X
  have hl : lv_has ls 10 [(0, .ref v0), (1, .ref v1)] := hl
  unfold f_Ed_substitute at hf
  obtain ⟨locs, hlo⟩ : ∃ z : List Loc, z = [] := ⟨_, rfl⟩
  rw [← hlo] at hI ⊢
  refine lv_aload_n hx hb d_Ed_substitute_0 rfl (lv_at hl 0 rfl) ?_
  obtain ⟨x1, ex1, hf⟩ := z_bs hf
  refine z_getF X hI (k := 9) (ci := 3) (gR_s ex1) i_Ed rfl (by decide) wf_Ed_36 d_Ed_substitute_1 ?_
  obtain ⟨u2, eu2, hf⟩ := z_bs hf
  obtain ⟨r3, er3, hf⟩ := z_bs hf
  refine z_callV (As := []) (rest := []) (r := none) (h' := r3) X hI eu2 (s_Row_empty er3) rfl rfl wm_Ed_96 yi_Row_empty rfl hl.1 rfl (Nat.le_of_ble_eq_true rfl) (by decide) (by decide) d_Ed_substitute_4 (fun H locs hI => ?_)
  refine W.eq (g2 := F0 m 7 ls []) rfl ?_
  refine lv_iconst (v := 0) hx hb d_Ed_substitute_7 (by decide) ?_
  refine lv_istore_n (lv' := [(2, .int 0), (0, .ref v0), (1, .ref v1)]) hx hb d_Ed_substitute_8 rfl hl (by decide) rfl (fun ls hl => ?_)
  refine lv_iconst (v := 0) hx hb d_Ed_substitute_9 (by decide) ?_
  refine lv_istore_n (lv' := [(3, .int 0), (2, .int 0), (0, .ref v0), (1, .ref v1)]) hx hb d_Ed_substitute_10 rfl hl (by decide) rfl (fun ls hl => ?_)
  refine lv_iconst (v := 0) hx hb d_Ed_substitute_11 (by decide) ?_
  refine lv_istore (lv' := [(4, .int 0), (3, .int 0), (2, .int 0), (0, .ref v0), (1, .ref v1)]) hx hb d_Ed_substitute_12 hl (by decide) rfl (fun ls hl => ?_)
  refine lv_iconst (v := (-1)) hx hb d_Ed_substitute_14 (by decide) ?_
  obtain ⟨x4, ex4, hf⟩ := z_bs hf
  refine z_topi (Option.some.inj ex4) ?_
  refine lv_istore (lv' := [(5, .int x4), (4, .int 0), (3, .int 0), (2, .int 0), (0, .ref v0), (1, .ref v1)]) hx hb d_Ed_substitute_15 hl (by decide) rfl (fun ls hl => ?_)
  refine lv_iconst (v := 0) hx hb d_Ed_substitute_17 (by decide) ?_
  refine lv_istore (lv' := [(6, .int 0), (5, .int x4), (4, .int 0), (3, .int 0), (2, .int 0), (0, .ref v0), (1, .ref v1)]) hx hb d_Ed_substitute_18 hl (by decide) rfl (fun ls hl => ?_)
  refine lv_iconst (v := 0) hx hb d_Ed_substitute_20 (by decide) ?_
  refine lv_istore (lv' := [(7, .int 0), (6, .int 0), (5, .int x4), (4, .int 0), (3, .int 0), (2, .int 0), (0, .ref v0), (1, .ref v1)]) hx hb d_Ed_substitute_21 hl (by decide) rfl (fun ls hl => ?_)
  exact s_Ed_substitute_23 X hlt hno hSt  N v0 v1 0 0 0 x4 0 0 r3 _ _ _ hI (lv_sub hl [6, 7, 5, 4, 3, 2, 1, 0] rfl) hf
def f_Ed_append (N : Nat) (v0 : Nat) (v1 : Nat) (h : z_H) : Option ((Unit ⊕ String) × z_H) :=
  z_b (gR h v0 3 7) fun x1 =>
  z_b (gI h v1 1 10) fun x2 =>
  z_b (gI h v1 1 9) fun x3 =>
  z_b (gO h x1 10) fun u4 =>
  z_b (f_Row_hasRoom N x1 ((x2 - x3) + 1) h) fun r5 =>
  if (r5.1) = 0 then
  (some (.inr xE3, r5.2))
  else
  (z_b (gR r5.2 v0 3 7) fun x7 =>
  z_b (gR r5.2 v0 3 10) fun x8 =>
  z_b (gR r5.2 x8 9 0) fun x9 =>
  z_b (gI r5.2 v1 1 9) fun x10 =>
  z_b (gI r5.2 v1 1 10) fun x11 =>
  z_b (gO r5.2 x7 10) fun u12 =>
  z_b (f_Row_addPart N x7 x9 x10 x11 r5.2) fun r13 =>
  z_b (gR r13 v0 3 7) fun x14 =>
  z_b (gO r13 x14 10) fun u15 =>
  z_b (f_Row_add N x14 10 r13) fun r16 =>
  some (.inl (), r16))
set_option maxRecDepth 20000 in
set_option maxHeartbeats 2000000 in
theorem s_Ed_append {l : Launch} (hlt : l.stackTraces = false) {D : va_G} {dA : Nat → ClassId} {B N : Nat} {v0 : Nat} {v1 : Nat} {h h' : z_H} {r : Unit ⊕ String} (hf : f_Ed_append N v0 v1 h = some (r, h')) : zx_Met l y_Ed_append prog_5_method_16_code 2 none 6 96 D dA B [.ref v0, .ref v1] h (zx_rv r) h' := by
  refine zx_of (by decide) (Nat.le_of_ble_eq_true rfl) (fun p e s m below meth c ls X hno hSt hI hl => ?_)
  have hx := z_hx X
  have hb := z_hb X
  have hl : lv_has ls 2 [(0, .ref v0), (1, .ref v1)] := hl
  unfold f_Ed_append at hf
  obtain ⟨locs, hlo⟩ : ∃ z : List Loc, z = [] := ⟨_, rfl⟩
  rw [← hlo] at hI ⊢
  refine lv_aload_n hx hb d_Ed_append_0 rfl (lv_at hl 0 rfl) ?_
  obtain ⟨x1, ex1, hf⟩ := z_bs hf
  refine z_getF X hI (k := 7) (ci := 3) (gR_s ex1) i_Ed rfl (by decide) wf_Ed_26 d_Ed_append_1 ?_
  refine lv_aload_n hx hb d_Ed_append_4 rfl (lv_at hl 1 rfl) ?_
  obtain ⟨x2, ex2, hf⟩ := z_bs hf
  refine z_getF X hI (k := 10) (ci := 1) (gI_s ex2) i_Cmd rfl (by decide) wf_Ed_209 d_Ed_append_5 ?_
  refine lv_aload_n hx hb d_Ed_append_8 rfl (lv_at hl 1 rfl) ?_
  obtain ⟨x3, ex3, hf⟩ := z_bs hf
  refine z_getF X hI (k := 9) (ci := 1) (gI_s ex3) i_Cmd rfl (by decide) wf_Ed_206 d_Ed_append_9 ?_
  refine lv_isub hx hb d_Ed_append_12 ?_
  refine lv_iconst (v := 1) hx hb d_Ed_append_13 (by decide) ?_
  refine lv_iadd hx hb d_Ed_append_14 ?_
  obtain ⟨u4, eu4, hf⟩ := z_bs hf
  obtain ⟨r5, er5, hf⟩ := z_bs hf
  refine z_callV (As := [.int ((x2 - x3) + 1)]) (rest := []) (r := (some (.int r5.1))) (h' := r5.2) X hI eu4 (s_Row_hasRoom er5) rfl rfl wm_Ed_136 yi_Row_hasRoom rfl hl.1 rfl (Nat.le_of_ble_eq_true rfl) (by decide) (by decide) d_Ed_append_15 (fun H locs hI => ?_)
  refine W.eq (g2 := F0 m 18 ls [.int (r5.1)]) rfl ?_
  refine lv_if_ne (tgt := 29) hx hb d_Ed_append_18 (by decide) (fun c6 => ?_) (fun c6 => ?_)
  · rw [if_neg c6] at hf
    refine lv_aload_n hx hb d_Ed_append_29 rfl (lv_at hl 0 rfl) ?_
    obtain ⟨x7, ex7, hf⟩ := z_bs hf
    refine z_getF X hI (k := 7) (ci := 3) (gR_s ex7) i_Ed rfl (by decide) wf_Ed_26 d_Ed_append_30 ?_
    refine lv_aload_n hx hb d_Ed_append_33 rfl (lv_at hl 0 rfl) ?_
    obtain ⟨x8, ex8, hf⟩ := z_bs hf
    refine z_getF X hI (k := 10) (ci := 3) (gR_s ex8) i_Ed rfl (by decide) wf_Ed_39 d_Ed_append_34 ?_
    obtain ⟨x9, ex9, hf⟩ := z_bs hf
    refine z_getF X hI (k := 0) (ci := 9) (gR_s ex9) i_Prog rfl (by decide) wf_Ed_203 d_Ed_append_37 ?_
    refine lv_aload_n hx hb d_Ed_append_40 rfl (lv_at hl 1 rfl) ?_
    obtain ⟨x10, ex10, hf⟩ := z_bs hf
    refine z_getF X hI (k := 9) (ci := 1) (gI_s ex10) i_Cmd rfl (by decide) wf_Ed_206 d_Ed_append_41 ?_
    refine lv_aload_n hx hb d_Ed_append_44 rfl (lv_at hl 1 rfl) ?_
    obtain ⟨x11, ex11, hf⟩ := z_bs hf
    refine z_getF X hI (k := 10) (ci := 1) (gI_s ex11) i_Cmd rfl (by decide) wf_Ed_209 d_Ed_append_45 ?_
    obtain ⟨u12, eu12, hf⟩ := z_bs hf
    obtain ⟨r13, er13, hf⟩ := z_bs hf
    refine z_callV (As := [.ref x9, .int x10, .int x11]) (rest := []) (r := none) (h' := r13) X hI eu12 (s_Row_addPart er13) rfl rfl wm_Ed_126 yi_Row_addPart rfl hl.1 rfl (Nat.le_of_ble_eq_true rfl) (by decide) (by decide) d_Ed_append_48 (fun H locs hI => ?_)
    refine W.eq (g2 := F0 m 51 ls []) rfl ?_
    refine lv_aload_n hx hb d_Ed_append_51 rfl (lv_at hl 0 rfl) ?_
    obtain ⟨x14, ex14, hf⟩ := z_bs hf
    refine z_getF X hI (k := 7) (ci := 3) (gR_s ex14) i_Ed rfl (by decide) wf_Ed_26 d_Ed_append_52 ?_
    refine lv_bipush (v := 10) hx hb d_Ed_append_55 (by decide) ?_
    obtain ⟨u15, eu15, hf⟩ := z_bs hf
    obtain ⟨r16, er16, hf⟩ := z_bs hf
    refine z_callV (As := [.int 10]) (rest := []) (r := none) (h' := r16) X hI eu15 (s_Row_add er16) rfl rfl wm_Ed_143 yi_Row_add rfl hl.1 rfl (Nat.le_of_ble_eq_true rfl) (by decide) (by decide) d_Ed_append_57 (fun H locs hI => ?_)
    refine W.eq (g2 := F0 m 60 ls []) rfl ?_
    cases hf
    exact zx_ret (z_vret X hI d_Ed_append_60)
  · rw [if_pos c6] at hf
    cases hf
    exact zx_throw X hlt hno hSt hI xf3 wl_Ed_140 wi_x3 at_Ed_142 hl.1 d_Ed_append_21 d_Ed_append_24 d_Ed_append_25 d_Ed_append_28 ⟨by decide, Nat.le_of_ble_eq_true rfl, by decide, by decide⟩
def f_Ed_change_48 (N : Nat)  (v0 : Nat) (h : z_H) : Option ((Unit ⊕ String) × z_H) :=
  z_b (gO h v0 3) fun u1 =>
  z_b (f_Ed_endCycle N v0 0 h) fun r2 =>
  zx_k r2 fun x3 h4 =>
  some (.inl (), h4)
set_option maxRecDepth 20000 in
set_option maxHeartbeats 2000000 in
theorem s_Ed_change_48 (X : z_X p s m args meth c prog_5_method_17_code 2 none Ts "StreamForge$Editor" D dA B) {N : Nat} {r : Unit ⊕ String} (hlt : l.stackTraces = false) (hno : ∀ x ∈ c.exceptionTable.toList, False) (hSt : z_St B s s.heap) {h' : z_H}   : ∀ (v0 : Nat) (h : z_H) (H : Heap) (locs : List Loc) (ls : Array Slot), z_I D dA B h s.heap H locs → lv_has ls 2 [(0, .ref v0)] → f_Ed_change_48 N  v0 h = some (r, h') → W p l e (zx_rm 9 162) s m args below meth c H locs 0 0 (zx_MQ below D dA B (zx_rv r) h' args s) (F0 m 48 ls []) := by
  have hx := z_hx X
  have hb := z_hb X
  intro v0 h H locs ls hI hl hf
  unfold f_Ed_change_48 at hf
  refine lv_aload_n hx hb d_Ed_change_48 rfl (lv_at hl 0 rfl) ?_
  refine lv_iconst (v := 0) hx hb d_Ed_change_49 (by decide) ?_
  obtain ⟨u1, eu1, hf⟩ := z_bs hf
  obtain ⟨r2, er2, hf⟩ := z_bs hf
  obtain ⟨q5, h4⟩ := r2
  rcases q5 with x3 | E6
  · have hf := zx_kl hf
    refine zx_callV (r := .inl none) (As := [.int 0]) (rest := []) (h' := h4) X hSt hI eu1 (s_Ed_endCycle hlt er2) rfl rfl wm_Ed_66 yi_Ed_endCycle rfl hl.1 rfl (Nat.le_of_ble_eq_true rfl) (by decide) (by decide) d_Ed_change_50 (fun v er H locs hI => ?_) (fun E er => by cases er)
    cases er
    refine W.eq (g2 := F0 m 53 ls []) rfl ?_
    cases hf
    exact zx_ret (z_vret X hI d_Ed_change_53)
  · cases zx_kr hf
    exact zx_callV (r := .inr E6) (As := [.int 0]) (rest := []) X hSt hI eu1 (s_Ed_endCycle hlt er2) rfl rfl wm_Ed_66 yi_Ed_endCycle rfl hl.1 rfl (Nat.le_of_ble_eq_true rfl) (by decide) (by decide) d_Ed_change_50 (fun v er => by cases er) (fun E er H locs q ce hI hce hcv hcl => by cases er; exact zx_out X hno hI hce hcv hcl)
def f_Ed_change_29 (N : Nat)  (v0 : Nat) (v1 : Nat) (h : z_H) : Option ((Unit ⊕ String) × z_H) :=
  z_b (gR h v0 3 10) fun x1 =>
  z_b (gR h x1 9 0) fun x2 =>
  z_b (gI h v1 1 9) fun x3 =>
  z_b (gI h v1 1 10) fun x4 =>
  z_b (gO h v0 3) fun u5 =>
  z_b (f_Ed_tell N v0 x2 x3 x4 h) fun r6 =>
  zx_k r6 fun x7 h8 =>
  f_Ed_change_48 N v0 h8
set_option maxRecDepth 20000 in
set_option maxHeartbeats 2000000 in
theorem s_Ed_change_29 (X : z_X p s m args meth c prog_5_method_17_code 2 none Ts "StreamForge$Editor" D dA B) {N : Nat} {r : Unit ⊕ String} (hlt : l.stackTraces = false) (hno : ∀ x ∈ c.exceptionTable.toList, False) (hSt : z_St B s s.heap) {h' : z_H}   : ∀ (v0 : Nat) (v1 : Nat) (h : z_H) (H : Heap) (locs : List Loc) (ls : Array Slot), z_I D dA B h s.heap H locs → lv_has ls 2 [(0, .ref v0), (1, .ref v1)] → f_Ed_change_29 N  v0 v1 h = some (r, h') → W p l e (zx_rm 9 162) s m args below meth c H locs 0 0 (zx_MQ below D dA B (zx_rv r) h' args s) (F0 m 29 ls []) := by
  have hx := z_hx X
  have hb := z_hb X
  intro v0 v1 h H locs ls hI hl hf
  unfold f_Ed_change_29 at hf
  refine lv_aload_n hx hb d_Ed_change_29 rfl (lv_at hl 0 rfl) ?_
  refine lv_aload_n hx hb d_Ed_change_30 rfl (lv_at hl 0 rfl) ?_
  obtain ⟨x1, ex1, hf⟩ := z_bs hf
  refine z_getF X hI (k := 10) (ci := 3) (gR_s ex1) i_Ed rfl (by decide) wf_Ed_39 d_Ed_change_31 ?_
  obtain ⟨x2, ex2, hf⟩ := z_bs hf
  refine z_getF X hI (k := 0) (ci := 9) (gR_s ex2) i_Prog rfl (by decide) wf_Ed_203 d_Ed_change_34 ?_
  refine lv_aload_n hx hb d_Ed_change_37 rfl (lv_at hl 1 rfl) ?_
  obtain ⟨x3, ex3, hf⟩ := z_bs hf
  refine z_getF X hI (k := 9) (ci := 1) (gI_s ex3) i_Cmd rfl (by decide) wf_Ed_206 d_Ed_change_38 ?_
  refine lv_aload_n hx hb d_Ed_change_41 rfl (lv_at hl 1 rfl) ?_
  obtain ⟨x4, ex4, hf⟩ := z_bs hf
  refine z_getF X hI (k := 10) (ci := 1) (gI_s ex4) i_Cmd rfl (by decide) wf_Ed_209 d_Ed_change_42 ?_
  obtain ⟨u5, eu5, hf⟩ := z_bs hf
  obtain ⟨r6, er6, hf⟩ := z_bs hf
  obtain ⟨q9, h8⟩ := r6
  rcases q9 with x7 | E10
  · have hf := zx_kl hf
    refine zx_callV (r := .inl none) (As := [.ref x2, .int x3, .int x4]) (rest := []) (h' := h8) X hSt hI eu5 (s_Ed_tell hlt er6) rfl rfl wm_Ed_130 yi_Ed_tell rfl hl.1 rfl (Nat.le_of_ble_eq_true rfl) (by decide) (by decide) d_Ed_change_45 (fun v er H locs hI => ?_) (fun E er => by cases er)
    cases er
    refine W.eq (g2 := F0 m 48 ls []) rfl ?_
    exact s_Ed_change_48 X hlt hno hSt  v0 h8 _ _ _ hI (lv_sub hl [0] rfl) hf
  · cases zx_kr hf
    exact zx_callV (r := .inr E10) (As := [.ref x2, .int x3, .int x4]) (rest := []) X hSt hI eu5 (s_Ed_tell hlt er6) rfl rfl wm_Ed_130 yi_Ed_tell rfl hl.1 rfl (Nat.le_of_ble_eq_true rfl) (by decide) (by decide) d_Ed_change_45 (fun v er => by cases er) (fun E er H locs q ce hI hce hcv hcl => by cases er; exact zx_out X hno hI hce hcv hcl)
def f_Ed_change (N : Nat) (v0 : Nat) (v1 : Nat) (h : z_H) : Option ((Unit ⊕ String) × z_H) :=
  z_b (gR h v0 3 1) fun x1 =>
  z_b (gO h x1 10) fun u2 =>
  z_b (f_Row_empty N x1 h) fun r3 =>
  z_b (gI r3 v1 1 5) fun x4 =>
  if x4 < 2 then
  (f_Ed_change_29 N v0 v1 r3)
  else
  (z_b (gI r3 v1 1 6) fun x6 =>
  if x6 = 0 then
  (z_b (gI r3 v0 3 16) fun x8 =>
  if x8 = 0 then
  (f_Ed_change_48 N v0 r3)
  else
  (f_Ed_change_29 N v0 v1 r3))
  else
  (f_Ed_change_29 N v0 v1 r3))
set_option maxRecDepth 20000 in
set_option maxHeartbeats 2000000 in
theorem s_Ed_change {l : Launch} (hlt : l.stackTraces = false) {D : va_G} {dA : Nat → ClassId} {B N : Nat} {v0 : Nat} {v1 : Nat} {h h' : z_H} {r : Unit ⊕ String} (hf : f_Ed_change N v0 v1 h = some (r, h')) : zx_Met l y_Ed_change prog_5_method_17_code 2 none 9 162 D dA B [.ref v0, .ref v1] h (zx_rv r) h' := by
  refine zx_of (by decide) (Nat.le_of_ble_eq_true rfl) (fun p e s m below meth c ls X hno hSt hI hl => ?_)
  have hx := z_hx X
  have hb := z_hb X
  have hl : lv_has ls 2 [(0, .ref v0), (1, .ref v1)] := hl
  unfold f_Ed_change at hf
  obtain ⟨locs, hlo⟩ : ∃ z : List Loc, z = [] := ⟨_, rfl⟩
  rw [← hlo] at hI ⊢
  refine lv_aload_n hx hb d_Ed_change_0 rfl (lv_at hl 0 rfl) ?_
  obtain ⟨x1, ex1, hf⟩ := z_bs hf
  refine z_getF X hI (k := 1) (ci := 3) (gR_s ex1) i_Ed rfl (by decide) wf_Ed_20 d_Ed_change_1 ?_
  obtain ⟨u2, eu2, hf⟩ := z_bs hf
  obtain ⟨r3, er3, hf⟩ := z_bs hf
  refine z_callV (As := []) (rest := []) (r := none) (h' := r3) X hI eu2 (s_Row_empty er3) rfl rfl wm_Ed_96 yi_Row_empty rfl hl.1 rfl (Nat.le_of_ble_eq_true rfl) (by decide) (by decide) d_Ed_change_4 (fun H locs hI => ?_)
  refine W.eq (g2 := F0 m 7 ls []) rfl ?_
  refine lv_aload_n hx hb d_Ed_change_7 rfl (lv_at hl 1 rfl) ?_
  obtain ⟨x4, ex4, hf⟩ := z_bs hf
  refine z_getF X hI (k := 5) (ci := 1) (gI_s ex4) i_Cmd rfl (by decide) wf_Ed_150 d_Ed_change_8 ?_
  refine lv_iconst (v := 2) hx hb d_Ed_change_11 (by decide) ?_
  refine lv_icmp_lt (tgt := 29) hx hb d_Ed_change_12 (by decide) (fun c5 => ?_) (fun c5 => ?_)
  · rw [if_pos c5] at hf
    exact s_Ed_change_29 X hlt hno hSt  v0 v1 r3 _ _ _ hI (lv_sub hl [0, 1] rfl) hf
  · rw [if_neg c5] at hf
    refine lv_aload_n hx hb d_Ed_change_15 rfl (lv_at hl 1 rfl) ?_
    obtain ⟨x6, ex6, hf⟩ := z_bs hf
    refine z_getF X hI (k := 6) (ci := 1) (gI_s ex6) i_Cmd rfl (by decide) wf_Ed_170 d_Ed_change_16 ?_
    refine lv_if_ne (tgt := 29) hx hb d_Ed_change_19 (by decide) (fun c7 => ?_) (fun c7 => ?_)
    · rw [if_neg c7] at hf
      exact s_Ed_change_29 X hlt hno hSt  v0 v1 r3 _ _ _ hI (lv_sub hl [0, 1] rfl) hf
    · rw [if_pos c7] at hf
      refine lv_aload_n hx hb d_Ed_change_22 rfl (lv_at hl 0 rfl) ?_
      obtain ⟨x8, ex8, hf⟩ := z_bs hf
      refine z_getF X hI (k := 16) (ci := 3) (gI_s ex8) i_Ed rfl (by decide) wf_Ed_167 d_Ed_change_23 ?_
      refine lv_if_eq (tgt := 48) hx hb d_Ed_change_26 (by decide) (fun c9 => ?_) (fun c9 => ?_)
      · rw [if_pos c9] at hf
        exact s_Ed_change_48 X hlt hno hSt  v0 r3 _ _ _ hI (lv_sub hl [0] rfl) hf
      · rw [if_neg c9] at hf
        exact s_Ed_change_29 X hlt hno hSt  v0 v1 r3 _ _ _ hI (lv_sub hl [0, 1] rfl) hf
def f_Ed_deleteFirst (N : Nat) (v0 : Nat) (h : z_H) : Option ((Unit ⊕ String) × z_H) :=
  z_b (gR h v0 3 1) fun x1 =>
  z_b (gO h x1 10) fun u2 =>
  z_b (f_Row_newlineFrom N x1 0 h) fun r3 =>
  z_b (some (r3.1)) fun x4 =>
  z_b (gR r3.2 v0 3 1) fun x5 =>
  z_b (gI r3.2 x5 10 1) fun x6 =>
  if x4 = x6 then
  (z_b (gO r3.2 v0 3) fun u19 =>
  z_b (f_Ed_endCycle N v0 0 r3.2) fun r20 =>
  zx_k r20 fun x21 h22 =>
  some (.inl (), h22))
  else
  (z_b (gO r3.2 v0 3) fun u8 =>
  z_b (f_Ed_tellAppended N v0 r3.2) fun r9 =>
  zx_k r9 fun x10 h11 =>
  z_b (gR h11 v0 3 1) fun x14 =>
  z_b (gO h11 x14 10) fun u15 =>
  z_b (f_Row_dropFirst N x14 (x4 + 1) h11) fun r16 =>
  z_b (gO r16 v0 3) fun u17 =>
  z_b (f_Ed_beginCycle N v0 r16) fun r18 =>
  some (.inl (), r18))
set_option maxRecDepth 20000 in
set_option maxHeartbeats 2000000 in
theorem s_Ed_deleteFirst {l : Launch} (hlt : l.stackTraces = false) {D : va_G} {dA : Nat → ClassId} {B N : Nat} {v0 : Nat} {h h' : z_H} {r : Unit ⊕ String} (hf : f_Ed_deleteFirst N v0 h = some (r, h')) : zx_Met l y_Ed_deleteFirst prog_5_method_18_code 2 none 9 162 D dA B [.ref v0] h (zx_rv r) h' := by
  refine zx_of (by decide) (Nat.le_of_ble_eq_true rfl) (fun p e s m below meth c ls X hno hSt hI hl => ?_)
  have hx := z_hx X
  have hb := z_hb X
  have hl : lv_has ls 2 [(0, .ref v0)] := hl
  unfold f_Ed_deleteFirst at hf
  obtain ⟨locs, hlo⟩ : ∃ z : List Loc, z = [] := ⟨_, rfl⟩
  rw [← hlo] at hI ⊢
  refine lv_aload_n hx hb d_Ed_deleteFirst_0 rfl (lv_at hl 0 rfl) ?_
  obtain ⟨x1, ex1, hf⟩ := z_bs hf
  refine z_getF X hI (k := 1) (ci := 3) (gR_s ex1) i_Ed rfl (by decide) wf_Ed_20 d_Ed_deleteFirst_1 ?_
  refine lv_iconst (v := 0) hx hb d_Ed_deleteFirst_4 (by decide) ?_
  obtain ⟨u2, eu2, hf⟩ := z_bs hf
  obtain ⟨r3, er3, hf⟩ := z_bs hf
  refine z_callV (As := [.int 0]) (rest := []) (r := (some (.int r3.1))) (h' := r3.2) X hI eu2 (s_Row_newlineFrom er3) rfl rfl wm_Ed_218 yi_Row_newlineFrom rfl hl.1 rfl (Nat.le_of_ble_eq_true rfl) (by decide) (by decide) d_Ed_deleteFirst_5 (fun H locs hI => ?_)
  refine W.eq (g2 := F0 m 8 ls [.int (r3.1)]) rfl ?_
  obtain ⟨x4, ex4, hf⟩ := z_bs hf
  refine z_topi (Option.some.inj ex4) ?_
  refine lv_istore_n (lv' := [(1, .int x4), (0, .ref v0)]) hx hb d_Ed_deleteFirst_8 rfl hl (by decide) rfl (fun ls hl => ?_)
  refine lv_iload_n hx hb d_Ed_deleteFirst_9 rfl (lv_at hl 0 rfl) ?_
  refine lv_aload_n hx hb d_Ed_deleteFirst_10 rfl (lv_at hl 1 rfl) ?_
  obtain ⟨x5, ex5, hf⟩ := z_bs hf
  refine z_getF X hI (k := 1) (ci := 3) (gR_s ex5) i_Ed rfl (by decide) wf_Ed_20 d_Ed_deleteFirst_11 ?_
  obtain ⟨x6, ex6, hf⟩ := z_bs hf
  refine z_getF X hI (k := 1) (ci := 10) (gI_s ex6) i_Row rfl (by decide) wf_Ed_123 d_Ed_deleteFirst_14 ?_
  refine lv_icmp_ne (tgt := 26) hx hb d_Ed_deleteFirst_17 (by decide) (fun c7 => ?_) (fun c7 => ?_)
  · rw [if_neg c7] at hf
    refine lv_aload_n hx hb d_Ed_deleteFirst_26 rfl (lv_at hl 1 rfl) ?_
    obtain ⟨u8, eu8, hf⟩ := z_bs hf
    obtain ⟨r9, er9, hf⟩ := z_bs hf
    obtain ⟨q12, h11⟩ := r9
    rcases q12 with x10 | E13
    · have hf := zx_kl hf
      refine zx_callV (r := .inl none) (As := []) (rest := []) (h' := h11) X hSt hI eu8 (s_Ed_tellAppended hlt er9) rfl rfl wm_Ed_133 yi_Ed_tellAppended rfl hl.1 rfl (Nat.le_of_ble_eq_true rfl) (by decide) (by decide) d_Ed_deleteFirst_27 (fun v er H locs hI => ?_) (fun E er => by cases er)
      cases er
      refine W.eq (g2 := F0 m 30 ls []) rfl ?_
      refine lv_aload_n hx hb d_Ed_deleteFirst_30 rfl (lv_at hl 1 rfl) ?_
      obtain ⟨x14, ex14, hf⟩ := z_bs hf
      refine z_getF X hI (k := 1) (ci := 3) (gR_s ex14) i_Ed rfl (by decide) wf_Ed_20 d_Ed_deleteFirst_31 ?_
      refine lv_iload_n hx hb d_Ed_deleteFirst_34 rfl (lv_at hl 0 rfl) ?_
      refine lv_iconst (v := 1) hx hb d_Ed_deleteFirst_35 (by decide) ?_
      refine lv_iadd hx hb d_Ed_deleteFirst_36 ?_
      obtain ⟨u15, eu15, hf⟩ := z_bs hf
      obtain ⟨r16, er16, hf⟩ := z_bs hf
      refine z_callV (As := [.int (x4 + 1)]) (rest := []) (r := none) (h' := r16) X hI eu15 (s_Row_dropFirst er16) rfl rfl wm_Ed_244 yi_Row_dropFirst rfl hl.1 rfl (Nat.le_of_ble_eq_true rfl) (by decide) (by decide) d_Ed_deleteFirst_37 (fun H locs hI => ?_)
      refine W.eq (g2 := F0 m 40 ls []) rfl ?_
      refine lv_aload_n hx hb d_Ed_deleteFirst_40 rfl (lv_at hl 1 rfl) ?_
      obtain ⟨u17, eu17, hf⟩ := z_bs hf
      obtain ⟨r18, er18, hf⟩ := z_bs hf
      refine z_callV (As := []) (rest := []) (r := none) (h' := r18) X hI eu17 (s_Ed_beginCycle er18) rfl rfl wm_Ed_117 yi_Ed_beginCycle rfl hl.1 rfl (Nat.le_of_ble_eq_true rfl) (by decide) (by decide) d_Ed_deleteFirst_41 (fun H locs hI => ?_)
      refine W.eq (g2 := F0 m 44 ls []) rfl ?_
      cases hf
      exact zx_ret (z_vret X hI d_Ed_deleteFirst_44)
    · cases zx_kr hf
      exact zx_callV (r := .inr E13) (As := []) (rest := []) X hSt hI eu8 (s_Ed_tellAppended hlt er9) rfl rfl wm_Ed_133 yi_Ed_tellAppended rfl hl.1 rfl (Nat.le_of_ble_eq_true rfl) (by decide) (by decide) d_Ed_deleteFirst_27 (fun v er => by cases er) (fun E er H locs q ce hI hce hcv hcl => by cases er; exact zx_out X hno hI hce hcv hcl)
  · rw [if_pos c7] at hf
    refine lv_aload_n hx hb d_Ed_deleteFirst_20 rfl (lv_at hl 1 rfl) ?_
    refine lv_iconst (v := 0) hx hb d_Ed_deleteFirst_21 (by decide) ?_
    obtain ⟨u19, eu19, hf⟩ := z_bs hf
    obtain ⟨r20, er20, hf⟩ := z_bs hf
    obtain ⟨q23, h22⟩ := r20
    rcases q23 with x21 | E24
    · have hf := zx_kl hf
      refine zx_callV (r := .inl none) (As := [.int 0]) (rest := []) (h' := h22) X hSt hI eu19 (s_Ed_endCycle hlt er20) rfl rfl wm_Ed_66 yi_Ed_endCycle rfl hl.1 rfl (Nat.le_of_ble_eq_true rfl) (by decide) (by decide) d_Ed_deleteFirst_22 (fun v er H locs hI => ?_) (fun E er => by cases er)
      cases er
      refine W.eq (g2 := F0 m 25 ls []) rfl ?_
      cases hf
      exact zx_ret (z_vret X hI d_Ed_deleteFirst_25)
    · cases zx_kr hf
      exact zx_callV (r := .inr E24) (As := [.int 0]) (rest := []) X hSt hI eu19 (s_Ed_endCycle hlt er20) rfl rfl wm_Ed_66 yi_Ed_endCycle rfl hl.1 rfl (Nat.le_of_ble_eq_true rfl) (by decide) (by decide) d_Ed_deleteFirst_22 (fun v er => by cases er) (fun E er H locs q ce hI hce hcv hcl => by cases er; exact zx_out X hno hI hce hcv hcl)
def f_Ed_quit (N : Nat) (v0 : Nat) (h : z_H) : Option ((Unit ⊕ String) × z_H) :=
  z_b (gR h v0 3 1) fun x1 =>
  z_b (gR h v0 3 1) fun x2 =>
  z_b (gI h x2 10 1) fun x3 =>
  z_b (gO h v0 3) fun u4 =>
  z_b (f_Ed_tell N v0 x1 0 x3 h) fun r5 =>
  zx_k r5 fun x6 h7 =>
  z_b (gO h7 v0 3) fun u10 =>
  z_b (f_Ed_tellAppended N v0 h7) fun r11 =>
  zx_k r11 fun x12 h13 =>
  z_b (sF h13 v0 3 14 (.int 1)) fun h16 =>
  some (.inl (), h16)
set_option maxRecDepth 20000 in
set_option maxHeartbeats 2000000 in
theorem s_Ed_quit {l : Launch} (hlt : l.stackTraces = false) {D : va_G} {dA : Nat → ClassId} {B N : Nat} {v0 : Nat} {h h' : z_H} {r : Unit ⊕ String} (hf : f_Ed_quit N v0 h = some (r, h')) : zx_Met l y_Ed_quit prog_5_method_8_code 1 none 8 141 D dA B [.ref v0] h (zx_rv r) h' := by
  refine zx_of (by decide) (Nat.le_of_ble_eq_true rfl) (fun p e s m below meth c ls X hno hSt hI hl => ?_)
  have hx := z_hx X
  have hb := z_hb X
  have hl : lv_has ls 1 [(0, .ref v0)] := hl
  unfold f_Ed_quit at hf
  obtain ⟨locs, hlo⟩ : ∃ z : List Loc, z = [] := ⟨_, rfl⟩
  rw [← hlo] at hI ⊢
  refine lv_aload_n hx hb d_Ed_quit_0 rfl (lv_at hl 0 rfl) ?_
  refine lv_aload_n hx hb d_Ed_quit_1 rfl (lv_at hl 0 rfl) ?_
  obtain ⟨x1, ex1, hf⟩ := z_bs hf
  refine z_getF X hI (k := 1) (ci := 3) (gR_s ex1) i_Ed rfl (by decide) wf_Ed_20 d_Ed_quit_2 ?_
  refine lv_iconst (v := 0) hx hb d_Ed_quit_5 (by decide) ?_
  refine lv_aload_n hx hb d_Ed_quit_6 rfl (lv_at hl 0 rfl) ?_
  obtain ⟨x2, ex2, hf⟩ := z_bs hf
  refine z_getF X hI (k := 1) (ci := 3) (gR_s ex2) i_Ed rfl (by decide) wf_Ed_20 d_Ed_quit_7 ?_
  obtain ⟨x3, ex3, hf⟩ := z_bs hf
  refine z_getF X hI (k := 1) (ci := 10) (gI_s ex3) i_Row rfl (by decide) wf_Ed_123 d_Ed_quit_10 ?_
  obtain ⟨u4, eu4, hf⟩ := z_bs hf
  obtain ⟨r5, er5, hf⟩ := z_bs hf
  obtain ⟨q8, h7⟩ := r5
  rcases q8 with x6 | E9
  · have hf := zx_kl hf
    refine zx_callV (r := .inl none) (As := [.ref x1, .int 0, .int x3]) (rest := []) (h' := h7) X hSt hI eu4 (s_Ed_tell hlt er5) rfl rfl wm_Ed_130 yi_Ed_tell rfl hl.1 rfl (Nat.le_of_ble_eq_true rfl) (by decide) (by decide) d_Ed_quit_13 (fun v er H locs hI => ?_) (fun E er => by cases er)
    cases er
    refine W.eq (g2 := F0 m 16 ls []) rfl ?_
    refine lv_aload_n hx hb d_Ed_quit_16 rfl (lv_at hl 0 rfl) ?_
    obtain ⟨u10, eu10, hf⟩ := z_bs hf
    obtain ⟨r11, er11, hf⟩ := z_bs hf
    obtain ⟨q14, h13⟩ := r11
    rcases q14 with x12 | E15
    · have hf := zx_kl hf
      refine zx_callV (r := .inl none) (As := []) (rest := []) (h' := h13) X hSt hI eu10 (s_Ed_tellAppended hlt er11) rfl rfl wm_Ed_133 yi_Ed_tellAppended rfl hl.1 rfl (Nat.le_of_ble_eq_true rfl) (by decide) (by decide) d_Ed_quit_17 (fun v er H locs hI => ?_) (fun E er => by cases er)
      cases er
      refine W.eq (g2 := F0 m 20 ls []) rfl ?_
      refine lv_aload_n hx hb d_Ed_quit_20 rfl (lv_at hl 0 rfl) ?_
      refine lv_iconst (v := 1) hx hb d_Ed_quit_21 (by decide) ?_
      obtain ⟨h16, eh16, hf⟩ := z_bs hf
      refine z_putF X hI (k := 14) (ci := 3) (ty0 := t_Ed) eh16 i_Ed t_Ed_ok n_Ed rfl (by decide) wf_Ed_54 rfl rfl rfl d_Ed_quit_22 (fun H locs hI => ?_)
      cases hf
      exact zx_ret (z_vret X hI d_Ed_quit_25)
    · cases zx_kr hf
      exact zx_callV (r := .inr E15) (As := []) (rest := []) X hSt hI eu10 (s_Ed_tellAppended hlt er11) rfl rfl wm_Ed_133 yi_Ed_tellAppended rfl hl.1 rfl (Nat.le_of_ble_eq_true rfl) (by decide) (by decide) d_Ed_quit_17 (fun v er => by cases er) (fun E er H locs q ce hI hce hcv hcl => by cases er; exact zx_out X hno hI hce hcv hcl)
  · cases zx_kr hf
    exact zx_callV (r := .inr E9) (As := [.ref x1, .int 0, .int x3]) (rest := []) X hSt hI eu4 (s_Ed_tell hlt er5) rfl rfl wm_Ed_130 yi_Ed_tell rfl hl.1 rfl (Nat.le_of_ble_eq_true rfl) (by decide) (by decide) d_Ed_quit_13 (fun v er => by cases er) (fun E er H locs q ce hI hce hcv hcl => by cases er; exact zx_out X hno hI hce hcv hcl)
def f_Ed_replaceByNext (N : Nat) (v0 : Nat) (h : z_H) : Option ((Unit ⊕ String) × z_H) :=
  z_b (gI h v0 3 3) fun x1 =>
  z_b (gI h v0 3 12) fun x2 =>
  if x1 = x2 then
  (z_b (gO h v0 3) fun u24 =>
  z_b (f_Ed_quit N v0 h) fun r25 =>
  zx_k r25 fun x26 h27 =>
  some (.inl (), h27))
  else
  (z_b (gR h v0 3 1) fun x4 =>
  z_b (gR h v0 3 1) fun x5 =>
  z_b (gI h x5 10 1) fun x6 =>
  z_b (gO h v0 3) fun u7 =>
  z_b (f_Ed_tell N v0 x4 0 x6 h) fun r8 =>
  zx_k r8 fun x9 h10 =>
  z_b (gO h10 v0 3) fun u13 =>
  z_b (f_Ed_tellAppended N v0 h10) fun r14 =>
  zx_k r14 fun x15 h16 =>
  z_b (gR h16 v0 3 1) fun x19 =>
  z_b (gO h16 x19 10) fun u20 =>
  z_b (f_Row_empty N x19 h16) fun r21 =>
  z_b (gO r21 v0 3) fun u22 =>
  z_b (f_Ed_readLine N v0 r21) fun r23 =>
  some (.inl (), r23))
set_option maxRecDepth 20000 in
set_option maxHeartbeats 2000000 in
theorem s_Ed_replaceByNext {l : Launch} (hlt : l.stackTraces = false) {D : va_G} {dA : Nat → ClassId} {B N : Nat} {v0 : Nat} {h h' : z_H} {r : Unit ⊕ String} (hf : f_Ed_replaceByNext N v0 h = some (r, h')) : zx_Met l y_Ed_replaceByNext prog_5_method_19_code 1 none 9 161 D dA B [.ref v0] h (zx_rv r) h' := by
  refine zx_of (by decide) (Nat.le_of_ble_eq_true rfl) (fun p e s m below meth c ls X hno hSt hI hl => ?_)
  have hx := z_hx X
  have hb := z_hb X
  have hl : lv_has ls 1 [(0, .ref v0)] := hl
  unfold f_Ed_replaceByNext at hf
  obtain ⟨locs, hlo⟩ : ∃ z : List Loc, z = [] := ⟨_, rfl⟩
  rw [← hlo] at hI ⊢
  refine lv_aload_n hx hb d_Ed_replaceByNext_0 rfl (lv_at hl 0 rfl) ?_
  obtain ⟨x1, ex1, hf⟩ := z_bs hf
  refine z_getF X hI (k := 3) (ci := 3) (gI_s ex1) i_Ed rfl (by decide) wf_Ed_99 d_Ed_replaceByNext_1 ?_
  refine lv_aload_n hx hb d_Ed_replaceByNext_4 rfl (lv_at hl 0 rfl) ?_
  obtain ⟨x2, ex2, hf⟩ := z_bs hf
  refine z_getF X hI (k := 12) (ci := 3) (gI_s ex2) i_Ed rfl (by decide) wf_Ed_47 d_Ed_replaceByNext_5 ?_
  refine lv_icmp_ne (tgt := 16) hx hb d_Ed_replaceByNext_8 (by decide) (fun c3 => ?_) (fun c3 => ?_)
  · rw [if_neg c3] at hf
    refine lv_aload_n hx hb d_Ed_replaceByNext_16 rfl (lv_at hl 0 rfl) ?_
    refine lv_aload_n hx hb d_Ed_replaceByNext_17 rfl (lv_at hl 0 rfl) ?_
    obtain ⟨x4, ex4, hf⟩ := z_bs hf
    refine z_getF X hI (k := 1) (ci := 3) (gR_s ex4) i_Ed rfl (by decide) wf_Ed_20 d_Ed_replaceByNext_18 ?_
    refine lv_iconst (v := 0) hx hb d_Ed_replaceByNext_21 (by decide) ?_
    refine lv_aload_n hx hb d_Ed_replaceByNext_22 rfl (lv_at hl 0 rfl) ?_
    obtain ⟨x5, ex5, hf⟩ := z_bs hf
    refine z_getF X hI (k := 1) (ci := 3) (gR_s ex5) i_Ed rfl (by decide) wf_Ed_20 d_Ed_replaceByNext_23 ?_
    obtain ⟨x6, ex6, hf⟩ := z_bs hf
    refine z_getF X hI (k := 1) (ci := 10) (gI_s ex6) i_Row rfl (by decide) wf_Ed_123 d_Ed_replaceByNext_26 ?_
    obtain ⟨u7, eu7, hf⟩ := z_bs hf
    obtain ⟨r8, er8, hf⟩ := z_bs hf
    obtain ⟨q11, h10⟩ := r8
    rcases q11 with x9 | E12
    · have hf := zx_kl hf
      refine zx_callV (r := .inl none) (As := [.ref x4, .int 0, .int x6]) (rest := []) (h' := h10) X hSt hI eu7 (s_Ed_tell hlt er8) rfl rfl wm_Ed_130 yi_Ed_tell rfl hl.1 rfl (Nat.le_of_ble_eq_true rfl) (by decide) (by decide) d_Ed_replaceByNext_29 (fun v er H locs hI => ?_) (fun E er => by cases er)
      cases er
      refine W.eq (g2 := F0 m 32 ls []) rfl ?_
      refine lv_aload_n hx hb d_Ed_replaceByNext_32 rfl (lv_at hl 0 rfl) ?_
      obtain ⟨u13, eu13, hf⟩ := z_bs hf
      obtain ⟨r14, er14, hf⟩ := z_bs hf
      obtain ⟨q17, h16⟩ := r14
      rcases q17 with x15 | E18
      · have hf := zx_kl hf
        refine zx_callV (r := .inl none) (As := []) (rest := []) (h' := h16) X hSt hI eu13 (s_Ed_tellAppended hlt er14) rfl rfl wm_Ed_133 yi_Ed_tellAppended rfl hl.1 rfl (Nat.le_of_ble_eq_true rfl) (by decide) (by decide) d_Ed_replaceByNext_33 (fun v er H locs hI => ?_) (fun E er => by cases er)
        cases er
        refine W.eq (g2 := F0 m 36 ls []) rfl ?_
        refine lv_aload_n hx hb d_Ed_replaceByNext_36 rfl (lv_at hl 0 rfl) ?_
        obtain ⟨x19, ex19, hf⟩ := z_bs hf
        refine z_getF X hI (k := 1) (ci := 3) (gR_s ex19) i_Ed rfl (by decide) wf_Ed_20 d_Ed_replaceByNext_37 ?_
        obtain ⟨u20, eu20, hf⟩ := z_bs hf
        obtain ⟨r21, er21, hf⟩ := z_bs hf
        refine z_callV (As := []) (rest := []) (r := none) (h' := r21) X hI eu20 (s_Row_empty er21) rfl rfl wm_Ed_96 yi_Row_empty rfl hl.1 rfl (Nat.le_of_ble_eq_true rfl) (by decide) (by decide) d_Ed_replaceByNext_40 (fun H locs hI => ?_)
        refine W.eq (g2 := F0 m 43 ls []) rfl ?_
        refine lv_aload_n hx hb d_Ed_replaceByNext_43 rfl (lv_at hl 0 rfl) ?_
        obtain ⟨u22, eu22, hf⟩ := z_bs hf
        obtain ⟨r23, er23, hf⟩ := z_bs hf
        refine z_callV (As := []) (rest := []) (r := none) (h' := r23) X hI eu22 (s_Ed_readLine er23) rfl rfl wm_Ed_114 yi_Ed_readLine rfl hl.1 rfl (Nat.le_of_ble_eq_true rfl) (by decide) (by decide) d_Ed_replaceByNext_44 (fun H locs hI => ?_)
        refine W.eq (g2 := F0 m 47 ls []) rfl ?_
        cases hf
        exact zx_ret (z_vret X hI d_Ed_replaceByNext_47)
      · cases zx_kr hf
        exact zx_callV (r := .inr E18) (As := []) (rest := []) X hSt hI eu13 (s_Ed_tellAppended hlt er14) rfl rfl wm_Ed_133 yi_Ed_tellAppended rfl hl.1 rfl (Nat.le_of_ble_eq_true rfl) (by decide) (by decide) d_Ed_replaceByNext_33 (fun v er => by cases er) (fun E er H locs q ce hI hce hcv hcl => by cases er; exact zx_out X hno hI hce hcv hcl)
    · cases zx_kr hf
      exact zx_callV (r := .inr E12) (As := [.ref x4, .int 0, .int x6]) (rest := []) X hSt hI eu7 (s_Ed_tell hlt er8) rfl rfl wm_Ed_130 yi_Ed_tell rfl hl.1 rfl (Nat.le_of_ble_eq_true rfl) (by decide) (by decide) d_Ed_replaceByNext_29 (fun v er => by cases er) (fun E er H locs q ce hI hce hcv hcl => by cases er; exact zx_out X hno hI hce hcv hcl)
  · rw [if_pos c3] at hf
    refine lv_aload_n hx hb d_Ed_replaceByNext_11 rfl (lv_at hl 0 rfl) ?_
    obtain ⟨u24, eu24, hf⟩ := z_bs hf
    obtain ⟨r25, er25, hf⟩ := z_bs hf
    obtain ⟨q28, h27⟩ := r25
    rcases q28 with x26 | E29
    · have hf := zx_kl hf
      refine zx_callV (r := .inl none) (As := []) (rest := []) (h' := h27) X hSt hI eu24 (s_Ed_quit hlt er25) rfl rfl wm_Ed_241 yi_Ed_quit rfl hl.1 rfl (Nat.le_of_ble_eq_true rfl) (by decide) (by decide) d_Ed_replaceByNext_12 (fun v er H locs hI => ?_) (fun E er => by cases er)
      cases er
      refine W.eq (g2 := F0 m 15 ls []) rfl ?_
      cases hf
      exact zx_ret (z_vret X hI d_Ed_replaceByNext_15)
    · cases zx_kr hf
      exact zx_callV (r := .inr E29) (As := []) (rest := []) X hSt hI eu24 (s_Ed_quit hlt er25) rfl rfl wm_Ed_241 yi_Ed_quit rfl hl.1 rfl (Nat.le_of_ble_eq_true rfl) (by decide) (by decide) d_Ed_replaceByNext_12 (fun v er => by cases er) (fun E er H locs q ce hI hce hcv hcl => by cases er; exact zx_out X hno hI hce hcv hcl)
def f_Ed_joinNext (N : Nat) (v0 : Nat) (h : z_H) : Option ((Unit ⊕ String) × z_H) :=
  z_b (gI h v0 3 3) fun x1 =>
  z_b (gI h v0 3 12) fun x2 =>
  if x1 = x2 then
  (z_b (gO h v0 3) fun u23 =>
  z_b (f_Ed_quit N v0 h) fun r24 =>
  zx_k r24 fun x25 h26 =>
  some (.inl (), h26))
  else
  (z_b (gR h v0 3 1) fun x4 =>
  z_b (gR h v0 3 11) fun x5 =>
  z_b (gI h v0 3 3) fun x6 =>
  z_b (aR h x5 4 x6) fun x7 =>
  z_b (gI h x7 10 1) fun x8 =>
  z_b (gO h x4 10) fun u9 =>
  z_b (f_Row_hasRoom N x4 (1 + x8) h) fun r10 =>
  if (r10.1) = 0 then
  (some (.inr xE3, r10.2))
  else
  (z_b (gO r10.2 v0 3) fun u12 =>
  z_b (f_Ed_tellAppended N v0 r10.2) fun r13 =>
  zx_k r13 fun x14 h15 =>
  z_b (gR h15 v0 3 1) fun x18 =>
  z_b (gO h15 x18 10) fun u19 =>
  z_b (f_Row_add N x18 10 h15) fun r20 =>
  z_b (gO r20 v0 3) fun u21 =>
  z_b (f_Ed_readLine N v0 r20) fun r22 =>
  some (.inl (), r22)))
set_option maxRecDepth 20000 in
set_option maxHeartbeats 2000000 in
theorem s_Ed_joinNext {l : Launch} (hlt : l.stackTraces = false) {D : va_G} {dA : Nat → ClassId} {B N : Nat} {v0 : Nat} {h h' : z_H} {r : Unit ⊕ String} (hf : f_Ed_joinNext N v0 h = some (r, h')) : zx_Met l y_Ed_joinNext prog_5_method_20_code 1 none 9 161 D dA B [.ref v0] h (zx_rv r) h' := by
  refine zx_of (by decide) (Nat.le_of_ble_eq_true rfl) (fun p e s m below meth c ls X hno hSt hI hl => ?_)
  have hx := z_hx X
  have hb := z_hb X
  have hl : lv_has ls 1 [(0, .ref v0)] := hl
  unfold f_Ed_joinNext at hf
  obtain ⟨locs, hlo⟩ : ∃ z : List Loc, z = [] := ⟨_, rfl⟩
  rw [← hlo] at hI ⊢
  refine lv_aload_n hx hb d_Ed_joinNext_0 rfl (lv_at hl 0 rfl) ?_
  obtain ⟨x1, ex1, hf⟩ := z_bs hf
  refine z_getF X hI (k := 3) (ci := 3) (gI_s ex1) i_Ed rfl (by decide) wf_Ed_99 d_Ed_joinNext_1 ?_
  refine lv_aload_n hx hb d_Ed_joinNext_4 rfl (lv_at hl 0 rfl) ?_
  obtain ⟨x2, ex2, hf⟩ := z_bs hf
  refine z_getF X hI (k := 12) (ci := 3) (gI_s ex2) i_Ed rfl (by decide) wf_Ed_47 d_Ed_joinNext_5 ?_
  refine lv_icmp_ne (tgt := 16) hx hb d_Ed_joinNext_8 (by decide) (fun c3 => ?_) (fun c3 => ?_)
  · rw [if_neg c3] at hf
    refine lv_aload_n hx hb d_Ed_joinNext_16 rfl (lv_at hl 0 rfl) ?_
    obtain ⟨x4, ex4, hf⟩ := z_bs hf
    refine z_getF X hI (k := 1) (ci := 3) (gR_s ex4) i_Ed rfl (by decide) wf_Ed_20 d_Ed_joinNext_17 ?_
    refine lv_iconst (v := 1) hx hb d_Ed_joinNext_20 (by decide) ?_
    refine lv_aload_n hx hb d_Ed_joinNext_21 rfl (lv_at hl 0 rfl) ?_
    obtain ⟨x5, ex5, hf⟩ := z_bs hf
    refine z_getF X hI (k := 11) (ci := 3) (gR_s ex5) i_Ed rfl (by decide) wf_Ed_43 d_Ed_joinNext_22 ?_
    refine lv_aload_n hx hb d_Ed_joinNext_25 rfl (lv_at hl 0 rfl) ?_
    obtain ⟨x6, ex6, hf⟩ := z_bs hf
    refine z_getF X hI (k := 3) (ci := 3) (gI_s ex6) i_Ed rfl (by decide) wf_Ed_99 d_Ed_joinNext_26 ?_
    obtain ⟨x7, ex7, hf⟩ := z_bs hf
    refine z_aald4 X hI ex7 d_Ed_joinNext_29 ?_
    obtain ⟨x8, ex8, hf⟩ := z_bs hf
    refine z_getF X hI (k := 1) (ci := 10) (gI_s ex8) i_Row rfl (by decide) wf_Ed_123 d_Ed_joinNext_30 ?_
    refine lv_iadd hx hb d_Ed_joinNext_33 ?_
    obtain ⟨u9, eu9, hf⟩ := z_bs hf
    obtain ⟨r10, er10, hf⟩ := z_bs hf
    refine z_callV (As := [.int (1 + x8)]) (rest := []) (r := (some (.int r10.1))) (h' := r10.2) X hI eu9 (s_Row_hasRoom er10) rfl rfl wm_Ed_136 yi_Row_hasRoom rfl hl.1 rfl (Nat.le_of_ble_eq_true rfl) (by decide) (by decide) d_Ed_joinNext_34 (fun H locs hI => ?_)
    refine W.eq (g2 := F0 m 37 ls [.int (r10.1)]) rfl ?_
    refine lv_if_ne (tgt := 48) hx hb d_Ed_joinNext_37 (by decide) (fun c11 => ?_) (fun c11 => ?_)
    · rw [if_neg c11] at hf
      refine lv_aload_n hx hb d_Ed_joinNext_48 rfl (lv_at hl 0 rfl) ?_
      obtain ⟨u12, eu12, hf⟩ := z_bs hf
      obtain ⟨r13, er13, hf⟩ := z_bs hf
      obtain ⟨q16, h15⟩ := r13
      rcases q16 with x14 | E17
      · have hf := zx_kl hf
        refine zx_callV (r := .inl none) (As := []) (rest := []) (h' := h15) X hSt hI eu12 (s_Ed_tellAppended hlt er13) rfl rfl wm_Ed_133 yi_Ed_tellAppended rfl hl.1 rfl (Nat.le_of_ble_eq_true rfl) (by decide) (by decide) d_Ed_joinNext_49 (fun v er H locs hI => ?_) (fun E er => by cases er)
        cases er
        refine W.eq (g2 := F0 m 52 ls []) rfl ?_
        refine lv_aload_n hx hb d_Ed_joinNext_52 rfl (lv_at hl 0 rfl) ?_
        obtain ⟨x18, ex18, hf⟩ := z_bs hf
        refine z_getF X hI (k := 1) (ci := 3) (gR_s ex18) i_Ed rfl (by decide) wf_Ed_20 d_Ed_joinNext_53 ?_
        refine lv_bipush (v := 10) hx hb d_Ed_joinNext_56 (by decide) ?_
        obtain ⟨u19, eu19, hf⟩ := z_bs hf
        obtain ⟨r20, er20, hf⟩ := z_bs hf
        refine z_callV (As := [.int 10]) (rest := []) (r := none) (h' := r20) X hI eu19 (s_Row_add er20) rfl rfl wm_Ed_143 yi_Row_add rfl hl.1 rfl (Nat.le_of_ble_eq_true rfl) (by decide) (by decide) d_Ed_joinNext_58 (fun H locs hI => ?_)
        refine W.eq (g2 := F0 m 61 ls []) rfl ?_
        refine lv_aload_n hx hb d_Ed_joinNext_61 rfl (lv_at hl 0 rfl) ?_
        obtain ⟨u21, eu21, hf⟩ := z_bs hf
        obtain ⟨r22, er22, hf⟩ := z_bs hf
        refine z_callV (As := []) (rest := []) (r := none) (h' := r22) X hI eu21 (s_Ed_readLine er22) rfl rfl wm_Ed_114 yi_Ed_readLine rfl hl.1 rfl (Nat.le_of_ble_eq_true rfl) (by decide) (by decide) d_Ed_joinNext_62 (fun H locs hI => ?_)
        refine W.eq (g2 := F0 m 65 ls []) rfl ?_
        cases hf
        exact zx_ret (z_vret X hI d_Ed_joinNext_65)
      · cases zx_kr hf
        exact zx_callV (r := .inr E17) (As := []) (rest := []) X hSt hI eu12 (s_Ed_tellAppended hlt er13) rfl rfl wm_Ed_133 yi_Ed_tellAppended rfl hl.1 rfl (Nat.le_of_ble_eq_true rfl) (by decide) (by decide) d_Ed_joinNext_49 (fun v er => by cases er) (fun E er H locs q ce hI hce hcv hcl => by cases er; exact zx_out X hno hI hce hcv hcl)
    · rw [if_pos c11] at hf
      cases hf
      exact zx_throw X hlt hno hSt hI xf3 wl_Ed_140 wi_x3 at_Ed_142 hl.1 d_Ed_joinNext_40 d_Ed_joinNext_43 d_Ed_joinNext_44 d_Ed_joinNext_47 ⟨by decide, Nat.le_of_ble_eq_true rfl, by decide, by decide⟩
  · rw [if_pos c3] at hf
    refine lv_aload_n hx hb d_Ed_joinNext_11 rfl (lv_at hl 0 rfl) ?_
    obtain ⟨u23, eu23, hf⟩ := z_bs hf
    obtain ⟨r24, er24, hf⟩ := z_bs hf
    obtain ⟨q27, h26⟩ := r24
    rcases q27 with x25 | E28
    · have hf := zx_kl hf
      refine zx_callV (r := .inl none) (As := []) (rest := []) (h' := h26) X hSt hI eu23 (s_Ed_quit hlt er24) rfl rfl wm_Ed_241 yi_Ed_quit rfl hl.1 rfl (Nat.le_of_ble_eq_true rfl) (by decide) (by decide) d_Ed_joinNext_12 (fun v er H locs hI => ?_) (fun E er => by cases er)
      cases er
      refine W.eq (g2 := F0 m 15 ls []) rfl ?_
      cases hf
      exact zx_ret (z_vret X hI d_Ed_joinNext_15)
    · cases zx_kr hf
      exact zx_callV (r := .inr E28) (As := []) (rest := []) X hSt hI eu23 (s_Ed_quit hlt er24) rfl rfl wm_Ed_241 yi_Ed_quit rfl hl.1 rfl (Nat.le_of_ble_eq_true rfl) (by decide) (by decide) d_Ed_joinNext_12 (fun v er => by cases er) (fun E er H locs q ce hI hce hcv hcl => by cases er; exact zx_out X hno hI hce hcv hcl)
def f_Ed_join (N : Nat) (v0 : Nat) (v1 : Nat) (v2 : Nat) (h : z_H) : Option ((Unit ⊕ String) × z_H) :=
  z_b (gI h v1 10 1) fun x1 =>
  z_b (gO h v2 10) fun u2 =>
  z_b (f_Row_hasRoom N v2 (1 + x1) h) fun r3 =>
  if (r3.1) = 0 then
  (some (.inr xE3, r3.2))
  else
  (z_b (gO r3.2 v2 10) fun u5 =>
  z_b (f_Row_add N v2 10 r3.2) fun r6 =>
  z_b (gI r6 v1 10 1) fun x7 =>
  z_b (gO r6 v2 10) fun u8 =>
  z_b (f_Row_addPart N v2 v1 0 x7 r6) fun r9 =>
  some (.inl (), r9))
set_option maxRecDepth 20000 in
set_option maxHeartbeats 2000000 in
theorem s_Ed_join {l : Launch} (hlt : l.stackTraces = false) {D : va_G} {dA : Nat → ClassId} {B N : Nat} {v0 : Nat} {v1 : Nat} {v2 : Nat} {h h' : z_H} {r : Unit ⊕ String} (hf : f_Ed_join N v0 v1 v2 h = some (r, h')) : zx_Met l y_Ed_join prog_5_method_22_code 3 none 6 96 D dA B [.ref v0, .ref v1, .ref v2] h (zx_rv r) h' := by
  refine zx_of (by decide) (Nat.le_of_ble_eq_true rfl) (fun p e s m below meth c ls X hno hSt hI hl => ?_)
  have hx := z_hx X
  have hb := z_hb X
  have hl : lv_has ls 3 [(0, .ref v0), (1, .ref v1), (2, .ref v2)] := hl
  unfold f_Ed_join at hf
  obtain ⟨locs, hlo⟩ : ∃ z : List Loc, z = [] := ⟨_, rfl⟩
  rw [← hlo] at hI ⊢
  refine lv_aload_n hx hb d_Ed_join_0 rfl (lv_at hl 2 rfl) ?_
  refine lv_iconst (v := 1) hx hb d_Ed_join_1 (by decide) ?_
  refine lv_aload_n hx hb d_Ed_join_2 rfl (lv_at hl 1 rfl) ?_
  obtain ⟨x1, ex1, hf⟩ := z_bs hf
  refine z_getF X hI (k := 1) (ci := 10) (gI_s ex1) i_Row rfl (by decide) wf_Ed_123 d_Ed_join_3 ?_
  refine lv_iadd hx hb d_Ed_join_6 ?_
  obtain ⟨u2, eu2, hf⟩ := z_bs hf
  obtain ⟨r3, er3, hf⟩ := z_bs hf
  refine z_callV (As := [.int (1 + x1)]) (rest := []) (r := (some (.int r3.1))) (h' := r3.2) X hI eu2 (s_Row_hasRoom er3) rfl rfl wm_Ed_136 yi_Row_hasRoom rfl hl.1 rfl (Nat.le_of_ble_eq_true rfl) (by decide) (by decide) d_Ed_join_7 (fun H locs hI => ?_)
  refine W.eq (g2 := F0 m 10 ls [.int (r3.1)]) rfl ?_
  refine lv_if_ne (tgt := 21) hx hb d_Ed_join_10 (by decide) (fun c4 => ?_) (fun c4 => ?_)
  · rw [if_neg c4] at hf
    refine lv_aload_n hx hb d_Ed_join_21 rfl (lv_at hl 2 rfl) ?_
    refine lv_bipush (v := 10) hx hb d_Ed_join_22 (by decide) ?_
    obtain ⟨u5, eu5, hf⟩ := z_bs hf
    obtain ⟨r6, er6, hf⟩ := z_bs hf
    refine z_callV (As := [.int 10]) (rest := []) (r := none) (h' := r6) X hI eu5 (s_Row_add er6) rfl rfl wm_Ed_143 yi_Row_add rfl hl.1 rfl (Nat.le_of_ble_eq_true rfl) (by decide) (by decide) d_Ed_join_24 (fun H locs hI => ?_)
    refine W.eq (g2 := F0 m 27 ls []) rfl ?_
    refine lv_aload_n hx hb d_Ed_join_27 rfl (lv_at hl 2 rfl) ?_
    refine lv_aload_n hx hb d_Ed_join_28 rfl (lv_at hl 1 rfl) ?_
    refine lv_iconst (v := 0) hx hb d_Ed_join_29 (by decide) ?_
    refine lv_aload_n hx hb d_Ed_join_30 rfl (lv_at hl 1 rfl) ?_
    obtain ⟨x7, ex7, hf⟩ := z_bs hf
    refine z_getF X hI (k := 1) (ci := 10) (gI_s ex7) i_Row rfl (by decide) wf_Ed_123 d_Ed_join_31 ?_
    obtain ⟨u8, eu8, hf⟩ := z_bs hf
    obtain ⟨r9, er9, hf⟩ := z_bs hf
    refine z_callV (As := [.ref v1, .int 0, .int x7]) (rest := []) (r := none) (h' := r9) X hI eu8 (s_Row_addPart er9) rfl rfl wm_Ed_126 yi_Row_addPart rfl hl.1 rfl (Nat.le_of_ble_eq_true rfl) (by decide) (by decide) d_Ed_join_34 (fun H locs hI => ?_)
    refine W.eq (g2 := F0 m 37 ls []) rfl ?_
    cases hf
    exact zx_ret (z_vret X hI d_Ed_join_37)
  · rw [if_pos c4] at hf
    cases hf
    exact zx_throw X hlt hno hSt hI xf3 wl_Ed_140 wi_x3 at_Ed_142 hl.1 d_Ed_join_13 d_Ed_join_16 d_Ed_join_17 d_Ed_join_20 ⟨by decide, Nat.le_of_ble_eq_true rfl, by decide, by decide⟩
def f_Ed_tellNumber_33 (N : Nat)  (v0 : Nat) (h : z_H) : Option ((Unit ⊕ String) × z_H) :=
  z_b (gR h v0 3 9) fun x1 =>
  z_b (gI h v0 3 3) fun x2 =>
  z_b (gO h x1 10) fun u3 =>
  z_b (f_Row_add N x1 (48 + (x2 - x2 / 10 * 10)) h) fun r4 =>
  z_b (gR r4 v0 3 9) fun x5 =>
  z_b (gR r4 v0 3 9) fun x6 =>
  z_b (gI r4 x6 10 1) fun x7 =>
  z_b (gO r4 v0 3) fun u8 =>
  z_b (f_Ed_tell N v0 x5 0 x7 r4) fun r9 =>
  zx_k r9 fun x10 h11 =>
  some (.inl (), h11)
set_option maxRecDepth 20000 in
set_option maxHeartbeats 2000000 in
theorem s_Ed_tellNumber_33 (X : z_X p s m args meth c prog_5_method_24_code 1 none Ts "StreamForge$Editor" D dA B) {N : Nat} {r : Unit ⊕ String} (hlt : l.stackTraces = false) (hno : ∀ x ∈ c.exceptionTable.toList, False) (hSt : z_St B s s.heap) {h' : z_H}   : ∀ (v0 : Nat) (h : z_H) (H : Heap) (locs : List Loc) (ls : Array Slot), z_I D dA B h s.heap H locs → lv_has ls 1 [(0, .ref v0)] → f_Ed_tellNumber_33 N  v0 h = some (r, h') → W p l e (zx_rm 7 119) s m args below meth c H locs 0 0 (zx_MQ below D dA B (zx_rv r) h' args s) (F0 m 33 ls []) := by
  have hx := z_hx X
  have hb := z_hb X
  intro v0 h H locs ls hI hl hf
  unfold f_Ed_tellNumber_33 at hf
  refine lv_aload_n hx hb d_Ed_tellNumber_33 rfl (lv_at hl 0 rfl) ?_
  obtain ⟨x1, ex1, hf⟩ := z_bs hf
  refine z_getF X hI (k := 9) (ci := 3) (gR_s ex1) i_Ed rfl (by decide) wf_Ed_36 d_Ed_tellNumber_34 ?_
  refine lv_bipush (v := 48) hx hb d_Ed_tellNumber_37 (by decide) ?_
  refine lv_aload_n hx hb d_Ed_tellNumber_39 rfl (lv_at hl 0 rfl) ?_
  obtain ⟨x2, ex2, hf⟩ := z_bs hf
  refine z_getF X hI (k := 3) (ci := 3) (gI_s ex2) i_Ed rfl (by decide) wf_Ed_99 d_Ed_tellNumber_40 ?_
  refine lv_bipush (v := 10) hx hb d_Ed_tellNumber_43 (by decide) ?_
  refine lv_irem hx hb d_Ed_tellNumber_45 (by decide) ?_
  refine lv_iadd hx hb d_Ed_tellNumber_46 ?_
  obtain ⟨u3, eu3, hf⟩ := z_bs hf
  obtain ⟨r4, er4, hf⟩ := z_bs hf
  refine z_callV (As := [.int (48 + (x2 - x2 / 10 * 10))]) (rest := []) (r := none) (h' := r4) X hI eu3 (s_Row_add er4) rfl rfl wm_Ed_143 yi_Row_add rfl hl.1 rfl (Nat.le_of_ble_eq_true rfl) (by decide) (by decide) d_Ed_tellNumber_47 (fun H locs hI => ?_)
  refine W.eq (g2 := F0 m 50 ls []) rfl ?_
  refine lv_aload_n hx hb d_Ed_tellNumber_50 rfl (lv_at hl 0 rfl) ?_
  refine lv_aload_n hx hb d_Ed_tellNumber_51 rfl (lv_at hl 0 rfl) ?_
  obtain ⟨x5, ex5, hf⟩ := z_bs hf
  refine z_getF X hI (k := 9) (ci := 3) (gR_s ex5) i_Ed rfl (by decide) wf_Ed_36 d_Ed_tellNumber_52 ?_
  refine lv_iconst (v := 0) hx hb d_Ed_tellNumber_55 (by decide) ?_
  refine lv_aload_n hx hb d_Ed_tellNumber_56 rfl (lv_at hl 0 rfl) ?_
  obtain ⟨x6, ex6, hf⟩ := z_bs hf
  refine z_getF X hI (k := 9) (ci := 3) (gR_s ex6) i_Ed rfl (by decide) wf_Ed_36 d_Ed_tellNumber_57 ?_
  obtain ⟨x7, ex7, hf⟩ := z_bs hf
  refine z_getF X hI (k := 1) (ci := 10) (gI_s ex7) i_Row rfl (by decide) wf_Ed_123 d_Ed_tellNumber_60 ?_
  obtain ⟨u8, eu8, hf⟩ := z_bs hf
  obtain ⟨r9, er9, hf⟩ := z_bs hf
  obtain ⟨q12, h11⟩ := r9
  rcases q12 with x10 | E13
  · have hf := zx_kl hf
    refine zx_callV (r := .inl none) (As := [.ref x5, .int 0, .int x7]) (rest := []) (h' := h11) X hSt hI eu8 (s_Ed_tell hlt er9) rfl rfl wm_Ed_130 yi_Ed_tell rfl hl.1 rfl (Nat.le_of_ble_eq_true rfl) (by decide) (by decide) d_Ed_tellNumber_63 (fun v er H locs hI => ?_) (fun E er => by cases er)
    cases er
    refine W.eq (g2 := F0 m 66 ls []) rfl ?_
    cases hf
    exact zx_ret (z_vret X hI d_Ed_tellNumber_66)
  · cases zx_kr hf
    exact zx_callV (r := .inr E13) (As := [.ref x5, .int 0, .int x7]) (rest := []) X hSt hI eu8 (s_Ed_tell hlt er9) rfl rfl wm_Ed_130 yi_Ed_tell rfl hl.1 rfl (Nat.le_of_ble_eq_true rfl) (by decide) (by decide) d_Ed_tellNumber_63 (fun v er => by cases er) (fun E er H locs q ce hI hce hcv hcl => by cases er; exact zx_out X hno hI hce hcv hcl)
def f_Ed_tellNumber (N : Nat) (v0 : Nat) (h : z_H) : Option ((Unit ⊕ String) × z_H) :=
  z_b (gR h v0 3 9) fun x1 =>
  z_b (gO h x1 10) fun u2 =>
  z_b (f_Row_empty N x1 h) fun r3 =>
  z_b (gI r3 v0 3 3) fun x4 =>
  if x4 < 10 then
  (f_Ed_tellNumber_33 N v0 r3)
  else
  (z_b (gR r3 v0 3 9) fun x6 =>
  z_b (gI r3 v0 3 3) fun x7 =>
  z_b (gO r3 x6 10) fun u8 =>
  z_b (f_Row_add N x6 (48 + (x7 / 10)) r3) fun r9 =>
  f_Ed_tellNumber_33 N v0 r9)
set_option maxRecDepth 20000 in
set_option maxHeartbeats 2000000 in
theorem s_Ed_tellNumber {l : Launch} (hlt : l.stackTraces = false) {D : va_G} {dA : Nat → ClassId} {B N : Nat} {v0 : Nat} {h h' : z_H} {r : Unit ⊕ String} (hf : f_Ed_tellNumber N v0 h = some (r, h')) : zx_Met l y_Ed_tellNumber prog_5_method_24_code 1 none 7 119 D dA B [.ref v0] h (zx_rv r) h' := by
  refine zx_of (by decide) (Nat.le_of_ble_eq_true rfl) (fun p e s m below meth c ls X hno hSt hI hl => ?_)
  have hx := z_hx X
  have hb := z_hb X
  have hl : lv_has ls 1 [(0, .ref v0)] := hl
  unfold f_Ed_tellNumber at hf
  obtain ⟨locs, hlo⟩ : ∃ z : List Loc, z = [] := ⟨_, rfl⟩
  rw [← hlo] at hI ⊢
  refine lv_aload_n hx hb d_Ed_tellNumber_0 rfl (lv_at hl 0 rfl) ?_
  obtain ⟨x1, ex1, hf⟩ := z_bs hf
  refine z_getF X hI (k := 9) (ci := 3) (gR_s ex1) i_Ed rfl (by decide) wf_Ed_36 d_Ed_tellNumber_1 ?_
  obtain ⟨u2, eu2, hf⟩ := z_bs hf
  obtain ⟨r3, er3, hf⟩ := z_bs hf
  refine z_callV (As := []) (rest := []) (r := none) (h' := r3) X hI eu2 (s_Row_empty er3) rfl rfl wm_Ed_96 yi_Row_empty rfl hl.1 rfl (Nat.le_of_ble_eq_true rfl) (by decide) (by decide) d_Ed_tellNumber_4 (fun H locs hI => ?_)
  refine W.eq (g2 := F0 m 7 ls []) rfl ?_
  refine lv_aload_n hx hb d_Ed_tellNumber_7 rfl (lv_at hl 0 rfl) ?_
  obtain ⟨x4, ex4, hf⟩ := z_bs hf
  refine z_getF X hI (k := 3) (ci := 3) (gI_s ex4) i_Ed rfl (by decide) wf_Ed_99 d_Ed_tellNumber_8 ?_
  refine lv_bipush (v := 10) hx hb d_Ed_tellNumber_11 (by decide) ?_
  refine lv_icmp_lt (tgt := 33) hx hb d_Ed_tellNumber_13 (by decide) (fun c5 => ?_) (fun c5 => ?_)
  · rw [if_pos c5] at hf
    exact s_Ed_tellNumber_33 X hlt hno hSt  v0 r3 _ _ _ hI (lv_sub hl [0] rfl) hf
  · rw [if_neg c5] at hf
    refine lv_aload_n hx hb d_Ed_tellNumber_16 rfl (lv_at hl 0 rfl) ?_
    obtain ⟨x6, ex6, hf⟩ := z_bs hf
    refine z_getF X hI (k := 9) (ci := 3) (gR_s ex6) i_Ed rfl (by decide) wf_Ed_36 d_Ed_tellNumber_17 ?_
    refine lv_bipush (v := 48) hx hb d_Ed_tellNumber_20 (by decide) ?_
    refine lv_aload_n hx hb d_Ed_tellNumber_22 rfl (lv_at hl 0 rfl) ?_
    obtain ⟨x7, ex7, hf⟩ := z_bs hf
    refine z_getF X hI (k := 3) (ci := 3) (gI_s ex7) i_Ed rfl (by decide) wf_Ed_99 d_Ed_tellNumber_23 ?_
    refine lv_bipush (v := 10) hx hb d_Ed_tellNumber_26 (by decide) ?_
    refine lv_idiv hx hb d_Ed_tellNumber_28 (by decide) ?_
    refine lv_iadd hx hb d_Ed_tellNumber_29 ?_
    obtain ⟨u8, eu8, hf⟩ := z_bs hf
    obtain ⟨r9, er9, hf⟩ := z_bs hf
    refine z_callV (As := [.int (48 + (x7 / 10))]) (rest := []) (r := none) (h' := r9) X hI eu8 (s_Row_add er9) rfl rfl wm_Ed_143 yi_Row_add rfl hl.1 rfl (Nat.le_of_ble_eq_true rfl) (by decide) (by decide) d_Ed_tellNumber_30 (fun H locs hI => ?_)
    refine W.eq (g2 := F0 m 33 ls []) rfl ?_
    exact s_Ed_tellNumber_33 X hlt hno hSt  v0 r9 _ _ _ hI (lv_sub hl [0] rfl) hf
def f_Ed_perform (N : Nat) (v0 : Nat) (v1 : Nat) (h : z_H) : Option ((Unit ⊕ String) × z_H) :=
  z_b (gI h v1 1 3) fun x1 =>
  if x1 = 61 then
  (z_b (gO h v0 3) fun u3 =>
  z_b (f_Ed_tellNumber N v0 h) fun r4 =>
  zx_k r4 fun x5 h6 =>
  some (.inl (), h6))
  else
  (
  if x1 = 68 then
  (z_b (gO h v0 3) fun u10 =>
  z_b (f_Ed_deleteFirst N v0 h) fun r11 =>
  zx_k r11 fun x12 h13 =>
  some (.inl (), h13))
  else
  (
  if x1 = 71 then
  (z_b (gR h v0 3 2) fun x17 =>
  z_b (gR h v0 3 1) fun x18 =>
  z_b (gO h v0 3) fun u19 =>
  z_b (f_Ed_join N v0 x17 x18 h) fun r20 =>
  zx_k r20 fun x21 h22 =>
  some (.inl (), h22))
  else
  (
  if x1 = 72 then
  (z_b (gR h v0 3 1) fun x26 =>
  z_b (gR h v0 3 2) fun x27 =>
  z_b (gO h v0 3) fun u28 =>
  z_b (f_Ed_join N v0 x26 x27 h) fun r29 =>
  zx_k r29 fun x30 h31 =>
  some (.inl (), h31))
  else
  (
  if x1 = 78 then
  (z_b (gO h v0 3) fun u35 =>
  z_b (f_Ed_joinNext N v0 h) fun r36 =>
  zx_k r36 fun x37 h38 =>
  some (.inl (), h38))
  else
  (
  if x1 = 80 then
  (z_b (gR h v0 3 1) fun x42 =>
  z_b (gR h v0 3 1) fun x43 =>
  z_b (gO h x43 10) fun u44 =>
  z_b (f_Row_newlineFrom N x43 0 h) fun r45 =>
  z_b (gO r45.2 v0 3) fun u46 =>
  z_b (f_Ed_tell N v0 x42 0 (r45.1) r45.2) fun r47 =>
  zx_k r47 fun x48 h49 =>
  some (.inl (), h49))
  else
  (
  if x1 = 97 then
  (z_b (gO h v0 3) fun u53 =>
  z_b (f_Ed_append N v0 v1 h) fun r54 =>
  zx_k r54 fun x55 h56 =>
  some (.inl (), h56))
  else
  (
  if x1 = 98 then
  (z_b (gI h v1 1 7) fun x60 =>
  z_b (sF h v0 3 13 (.int x60)) fun h61 =>
  some (.inl (), h61))
  else
  (
  if x1 = 99 then
  (z_b (gO h v0 3) fun u63 =>
  z_b (f_Ed_change N v0 v1 h) fun r64 =>
  zx_k r64 fun x65 h66 =>
  some (.inl (), h66))
  else
  (
  if x1 = 100 then
  (z_b (gO h v0 3) fun u70 =>
  z_b (f_Ed_endCycle N v0 0 h) fun r71 =>
  zx_k r71 fun x72 h73 =>
  some (.inl (), h73))
  else
  (
  if x1 = 103 then
  (z_b (gR h v0 3 2) fun x77 =>
  z_b (gR h v0 3 1) fun x78 =>
  z_b (gO h v0 3) fun u79 =>
  z_b (f_Ed_copy N v0 x77 x78 h) fun r80 =>
  some (.inl (), r80))
  else
  (
  if x1 = 104 then
  (z_b (gR h v0 3 1) fun x82 =>
  z_b (gR h v0 3 2) fun x83 =>
  z_b (gO h v0 3) fun u84 =>
  z_b (f_Ed_copy N v0 x82 x83 h) fun r85 =>
  some (.inl (), r85))
  else
  (
  if x1 = 105 then
  (z_b (gR h v0 3 10) fun x87 =>
  z_b (gR h x87 9 0) fun x88 =>
  z_b (gI h v1 1 9) fun x89 =>
  z_b (gI h v1 1 10) fun x90 =>
  z_b (gO h v0 3) fun u91 =>
  z_b (f_Ed_tell N v0 x88 x89 x90 h) fun r92 =>
  zx_k r92 fun x93 h94 =>
  some (.inl (), h94))
  else
  (
  if x1 = 110 then
  (z_b (gO h v0 3) fun u98 =>
  z_b (f_Ed_replaceByNext N v0 h) fun r99 =>
  zx_k r99 fun x100 h101 =>
  some (.inl (), h101))
  else
  (
  if x1 = 112 then
  (z_b (gR h v0 3 1) fun x105 =>
  z_b (gR h v0 3 1) fun x106 =>
  z_b (gI h x106 10 1) fun x107 =>
  z_b (gO h v0 3) fun u108 =>
  z_b (f_Ed_tell N v0 x105 0 x107 h) fun r109 =>
  zx_k r109 fun x110 h111 =>
  some (.inl (), h111))
  else
  (
  if x1 = 113 then
  (z_b (gO h v0 3) fun u115 =>
  z_b (f_Ed_quit N v0 h) fun r116 =>
  zx_k r116 fun x117 h118 =>
  some (.inl (), h118))
  else
  (
  if x1 = 115 then
  (z_b (gO h v0 3) fun u122 =>
  z_b (f_Ed_substitute N v0 v1 h) fun r123 =>
  zx_k r123 fun x124 h125 =>
  some (.inl (), h125))
  else
  (
  if x1 = 116 then
  (z_b (gO h v0 3) fun u129 =>
  z_b (f_Ed_branchIfReplaced N v0 v1 h) fun r130 =>
  some (.inl (), r130))
  else
  (
  if x1 = 120 then
  (z_b (gO h v0 3) fun u132 =>
  z_b (f_Ed_swap N v0 h) fun r133 =>
  some (.inl (), r133))
  else
  (
  if x1 = 121 then
  (z_b (gO h v0 3) fun u135 =>
  z_b (f_Ed_exchange N v0 v1 h) fun r136 =>
  some (.inl (), r136))
  else
  (
  some (.inl (), h)))))))))))))))))))))
set_option maxRecDepth 20000 in
set_option maxHeartbeats 2000000 in
theorem s_Ed_perform {l : Launch} (hlt : l.stackTraces = false) {D : va_G} {dA : Nat → ClassId} {B N : Nat} {v0 : Nat} {v1 : Nat} {h h' : z_H} {r : Unit ⊕ String} (hf : f_Ed_perform N v0 v1 h = some (r, h')) : zx_Met l y_Ed_perform prog_5_method_14_code 2 none 10 183 D dA B [.ref v0, .ref v1] h (zx_rv r) h' := by
  refine zx_of (by decide) (Nat.le_of_ble_eq_true rfl) (fun p e s m below meth c ls X hno hSt hI hl => ?_)
  have hx := z_hx X
  have hb := z_hb X
  have hl : lv_has ls 2 [(0, .ref v0), (1, .ref v1)] := hl
  unfold f_Ed_perform at hf
  obtain ⟨locs, hlo⟩ : ∃ z : List Loc, z = [] := ⟨_, rfl⟩
  rw [← hlo] at hI ⊢
  refine lv_aload_n hx hb d_Ed_perform_0 rfl (lv_at hl 1 rfl) ?_
  obtain ⟨x1, ex1, hf⟩ := z_bs hf
  refine z_getF X hI (k := 3) (ci := 1) (gI_s ex1) i_Cmd rfl (by decide) wf_Ed_88 d_Ed_perform_1 ?_
  by_cases c2 : x1 = 61
  · rw [if_pos c2] at hf
    refine lv_tableIn (off := 468) (tgt := 472) hx hb d_Ed_perform_4 (by rw [c2]; decide) (by rw [c2]; decide) (by rw [c2]; rfl) (by decide) ?_
    refine lv_aload_n hx hb d_Ed_perform_472 rfl (lv_at hl 0 rfl) ?_
    obtain ⟨u3, eu3, hf⟩ := z_bs hf
    obtain ⟨r4, er4, hf⟩ := z_bs hf
    obtain ⟨q7, h6⟩ := r4
    rcases q7 with x5 | E8
    · have hf := zx_kl hf
      refine zx_callV (r := .inl none) (As := []) (rest := []) (h' := h6) X hSt hI eu3 (s_Ed_tellNumber hlt er4) rfl rfl wm_Ed_238 yi_Ed_tellNumber rfl hl.1 rfl (Nat.le_of_ble_eq_true rfl) (by decide) (by decide) d_Ed_perform_473 (fun v er H locs hI => ?_) (fun E er => by cases er)
      cases er
      refine W.eq (g2 := F0 m 476 ls []) rfl ?_
      refine lv_goto (tgt := 486) hx hb d_Ed_perform_476 (by decide) ?_
      cases hf
      exact zx_ret (z_vret X hI d_Ed_perform_486)
    · cases zx_kr hf
      exact zx_callV (r := .inr E8) (As := []) (rest := []) X hSt hI eu3 (s_Ed_tellNumber hlt er4) rfl rfl wm_Ed_238 yi_Ed_tellNumber rfl hl.1 rfl (Nat.le_of_ble_eq_true rfl) (by decide) (by decide) d_Ed_perform_473 (fun v er => by cases er) (fun E er H locs q ce hI hce hcv hcl => by cases er; exact zx_out X hno hI hce hcv hcl)
  · rw [if_neg c2] at hf
    by_cases c9 : x1 = 68
    · rw [if_pos c9] at hf
      refine lv_tableIn (off := 341) (tgt := 345) hx hb d_Ed_perform_4 (by rw [c9]; decide) (by rw [c9]; decide) (by rw [c9]; rfl) (by decide) ?_
      refine lv_aload_n hx hb d_Ed_perform_345 rfl (lv_at hl 0 rfl) ?_
      obtain ⟨u10, eu10, hf⟩ := z_bs hf
      obtain ⟨r11, er11, hf⟩ := z_bs hf
      obtain ⟨q14, h13⟩ := r11
      rcases q14 with x12 | E15
      · have hf := zx_kl hf
        refine zx_callV (r := .inl none) (As := []) (rest := []) (h' := h13) X hSt hI eu10 (s_Ed_deleteFirst hlt er11) rfl rfl wm_Ed_215 yi_Ed_deleteFirst rfl hl.1 rfl (Nat.le_of_ble_eq_true rfl) (by decide) (by decide) d_Ed_perform_346 (fun v er H locs hI => ?_) (fun E er => by cases er)
        cases er
        refine W.eq (g2 := F0 m 349 ls []) rfl ?_
        refine lv_goto (tgt := 486) hx hb d_Ed_perform_349 (by decide) ?_
        cases hf
        exact zx_ret (z_vret X hI d_Ed_perform_486)
      · cases zx_kr hf
        exact zx_callV (r := .inr E15) (As := []) (rest := []) X hSt hI eu10 (s_Ed_deleteFirst hlt er11) rfl rfl wm_Ed_215 yi_Ed_deleteFirst rfl hl.1 rfl (Nat.le_of_ble_eq_true rfl) (by decide) (by decide) d_Ed_perform_346 (fun v er => by cases er) (fun E er H locs q ce hI hce hcv hcl => by cases er; exact zx_out X hno hI hce hcv hcl)
    · rw [if_neg c9] at hf
      by_cases c16 : x1 = 71
      · rw [if_pos c16] at hf
        refine lv_tableIn (off := 446) (tgt := 450) hx hb d_Ed_perform_4 (by rw [c16]; decide) (by rw [c16]; decide) (by rw [c16]; rfl) (by decide) ?_
        refine lv_aload_n hx hb d_Ed_perform_450 rfl (lv_at hl 0 rfl) ?_
        refine lv_aload_n hx hb d_Ed_perform_451 rfl (lv_at hl 0 rfl) ?_
        obtain ⟨x17, ex17, hf⟩ := z_bs hf
        refine z_getF X hI (k := 2) (ci := 3) (gR_s ex17) i_Ed rfl (by decide) wf_Ed_23 d_Ed_perform_452 ?_
        refine lv_aload_n hx hb d_Ed_perform_455 rfl (lv_at hl 0 rfl) ?_
        obtain ⟨x18, ex18, hf⟩ := z_bs hf
        refine z_getF X hI (k := 1) (ci := 3) (gR_s ex18) i_Ed rfl (by decide) wf_Ed_20 d_Ed_perform_456 ?_
        obtain ⟨u19, eu19, hf⟩ := z_bs hf
        obtain ⟨r20, er20, hf⟩ := z_bs hf
        obtain ⟨q23, h22⟩ := r20
        rcases q23 with x21 | E24
        · have hf := zx_kl hf
          refine zx_callV (r := .inl none) (As := [.ref x17, .ref x18]) (rest := []) (h' := h22) X hSt hI eu19 (s_Ed_join hlt er20) rfl rfl wm_Ed_232 yi_Ed_join rfl hl.1 rfl (Nat.le_of_ble_eq_true rfl) (by decide) (by decide) d_Ed_perform_459 (fun v er H locs hI => ?_) (fun E er => by cases er)
          cases er
          refine W.eq (g2 := F0 m 462 ls []) rfl ?_
          refine lv_goto (tgt := 486) hx hb d_Ed_perform_462 (by decide) ?_
          cases hf
          exact zx_ret (z_vret X hI d_Ed_perform_486)
        · cases zx_kr hf
          exact zx_callV (r := .inr E24) (As := [.ref x17, .ref x18]) (rest := []) X hSt hI eu19 (s_Ed_join hlt er20) rfl rfl wm_Ed_232 yi_Ed_join rfl hl.1 rfl (Nat.le_of_ble_eq_true rfl) (by decide) (by decide) d_Ed_perform_459 (fun v er => by cases er) (fun E er H locs q ce hI hce hcv hcl => by cases er; exact zx_out X hno hI hce hcv hcl)
      · rw [if_neg c16] at hf
        by_cases c25 : x1 = 72
        · rw [if_pos c25] at hf
          refine lv_tableIn (off := 416) (tgt := 420) hx hb d_Ed_perform_4 (by rw [c25]; decide) (by rw [c25]; decide) (by rw [c25]; rfl) (by decide) ?_
          refine lv_aload_n hx hb d_Ed_perform_420 rfl (lv_at hl 0 rfl) ?_
          refine lv_aload_n hx hb d_Ed_perform_421 rfl (lv_at hl 0 rfl) ?_
          obtain ⟨x26, ex26, hf⟩ := z_bs hf
          refine z_getF X hI (k := 1) (ci := 3) (gR_s ex26) i_Ed rfl (by decide) wf_Ed_20 d_Ed_perform_422 ?_
          refine lv_aload_n hx hb d_Ed_perform_425 rfl (lv_at hl 0 rfl) ?_
          obtain ⟨x27, ex27, hf⟩ := z_bs hf
          refine z_getF X hI (k := 2) (ci := 3) (gR_s ex27) i_Ed rfl (by decide) wf_Ed_23 d_Ed_perform_426 ?_
          obtain ⟨u28, eu28, hf⟩ := z_bs hf
          obtain ⟨r29, er29, hf⟩ := z_bs hf
          obtain ⟨q32, h31⟩ := r29
          rcases q32 with x30 | E33
          · have hf := zx_kl hf
            refine zx_callV (r := .inl none) (As := [.ref x26, .ref x27]) (rest := []) (h' := h31) X hSt hI eu28 (s_Ed_join hlt er29) rfl rfl wm_Ed_232 yi_Ed_join rfl hl.1 rfl (Nat.le_of_ble_eq_true rfl) (by decide) (by decide) d_Ed_perform_429 (fun v er H locs hI => ?_) (fun E er => by cases er)
            cases er
            refine W.eq (g2 := F0 m 432 ls []) rfl ?_
            refine lv_goto (tgt := 486) hx hb d_Ed_perform_432 (by decide) ?_
            cases hf
            exact zx_ret (z_vret X hI d_Ed_perform_486)
          · cases zx_kr hf
            exact zx_callV (r := .inr E33) (As := [.ref x26, .ref x27]) (rest := []) X hSt hI eu28 (s_Ed_join hlt er29) rfl rfl wm_Ed_232 yi_Ed_join rfl hl.1 rfl (Nat.le_of_ble_eq_true rfl) (by decide) (by decide) d_Ed_perform_429 (fun v er => by cases er) (fun E er H locs q ce hI hce hcv hcl => by cases er; exact zx_out X hno hI hce hcv hcl)
        · rw [if_neg c25] at hf
          by_cases c34 : x1 = 78
          · rw [if_pos c34] at hf
            refine lv_tableIn (off := 394) (tgt := 398) hx hb d_Ed_perform_4 (by rw [c34]; decide) (by rw [c34]; decide) (by rw [c34]; rfl) (by decide) ?_
            refine lv_aload_n hx hb d_Ed_perform_398 rfl (lv_at hl 0 rfl) ?_
            obtain ⟨u35, eu35, hf⟩ := z_bs hf
            obtain ⟨r36, er36, hf⟩ := z_bs hf
            obtain ⟨q39, h38⟩ := r36
            rcases q39 with x37 | E40
            · have hf := zx_kl hf
              refine zx_callV (r := .inl none) (As := []) (rest := []) (h' := h38) X hSt hI eu35 (s_Ed_joinNext hlt er36) rfl rfl wm_Ed_225 yi_Ed_joinNext rfl hl.1 rfl (Nat.le_of_ble_eq_true rfl) (by decide) (by decide) d_Ed_perform_399 (fun v er H locs hI => ?_) (fun E er => by cases er)
              cases er
              refine W.eq (g2 := F0 m 402 ls []) rfl ?_
              refine lv_goto (tgt := 486) hx hb d_Ed_perform_402 (by decide) ?_
              cases hf
              exact zx_ret (z_vret X hI d_Ed_perform_486)
            · cases zx_kr hf
              exact zx_callV (r := .inr E40) (As := []) (rest := []) X hSt hI eu35 (s_Ed_joinNext hlt er36) rfl rfl wm_Ed_225 yi_Ed_joinNext rfl hl.1 rfl (Nat.le_of_ble_eq_true rfl) (by decide) (by decide) d_Ed_perform_399 (fun v er => by cases er) (fun E er H locs q ce hI hce hcv hcl => by cases er; exact zx_out X hno hI hce hcv hcl)
          · rw [if_neg c34] at hf
            by_cases c41 : x1 = 80
            · rw [if_pos c41] at hf
              refine lv_tableIn (off := 367) (tgt := 371) hx hb d_Ed_perform_4 (by rw [c41]; decide) (by rw [c41]; decide) (by rw [c41]; rfl) (by decide) ?_
              refine lv_aload_n hx hb d_Ed_perform_371 rfl (lv_at hl 0 rfl) ?_
              refine lv_aload_n hx hb d_Ed_perform_372 rfl (lv_at hl 0 rfl) ?_
              obtain ⟨x42, ex42, hf⟩ := z_bs hf
              refine z_getF X hI (k := 1) (ci := 3) (gR_s ex42) i_Ed rfl (by decide) wf_Ed_20 d_Ed_perform_373 ?_
              refine lv_iconst (v := 0) hx hb d_Ed_perform_376 (by decide) ?_
              refine lv_aload_n hx hb d_Ed_perform_377 rfl (lv_at hl 0 rfl) ?_
              obtain ⟨x43, ex43, hf⟩ := z_bs hf
              refine z_getF X hI (k := 1) (ci := 3) (gR_s ex43) i_Ed rfl (by decide) wf_Ed_20 d_Ed_perform_378 ?_
              refine lv_iconst (v := 0) hx hb d_Ed_perform_381 (by decide) ?_
              obtain ⟨u44, eu44, hf⟩ := z_bs hf
              obtain ⟨r45, er45, hf⟩ := z_bs hf
              refine z_callV (As := [.int 0]) (rest := [.int 0, .ref x42, .ref v0]) (r := (some (.int r45.1))) (h' := r45.2) X hI eu44 (s_Row_newlineFrom er45) rfl rfl wm_Ed_218 yi_Row_newlineFrom rfl hl.1 rfl (Nat.le_of_ble_eq_true rfl) (by decide) (by decide) d_Ed_perform_382 (fun H locs hI => ?_)
              refine W.eq (g2 := F0 m 385 ls [.int (r45.1), .int 0, .ref x42, .ref v0]) rfl ?_
              obtain ⟨u46, eu46, hf⟩ := z_bs hf
              obtain ⟨r47, er47, hf⟩ := z_bs hf
              obtain ⟨q50, h49⟩ := r47
              rcases q50 with x48 | E51
              · have hf := zx_kl hf
                refine zx_callV (r := .inl none) (As := [.ref x42, .int 0, .int (r45.1)]) (rest := []) (h' := h49) X hSt hI eu46 (s_Ed_tell hlt er47) rfl rfl wm_Ed_130 yi_Ed_tell rfl hl.1 rfl (Nat.le_of_ble_eq_true rfl) (by decide) (by decide) d_Ed_perform_385 (fun v er H locs hI => ?_) (fun E er => by cases er)
                cases er
                refine W.eq (g2 := F0 m 388 ls []) rfl ?_
                refine lv_goto (tgt := 486) hx hb d_Ed_perform_388 (by decide) ?_
                cases hf
                exact zx_ret (z_vret X hI d_Ed_perform_486)
              · cases zx_kr hf
                exact zx_callV (r := .inr E51) (As := [.ref x42, .int 0, .int (r45.1)]) (rest := []) X hSt hI eu46 (s_Ed_tell hlt er47) rfl rfl wm_Ed_130 yi_Ed_tell rfl hl.1 rfl (Nat.le_of_ble_eq_true rfl) (by decide) (by decide) d_Ed_perform_385 (fun v er => by cases er) (fun E er H locs q ce hI hce hcv hcl => by cases er; exact zx_out X hno hI hce hcv hcl)
            · rw [if_neg c41] at hf
              by_cases c52 : x1 = 97
              · rw [if_pos c52] at hf
                refine lv_tableIn (off := 295) (tgt := 299) hx hb d_Ed_perform_4 (by rw [c52]; decide) (by rw [c52]; decide) (by rw [c52]; rfl) (by decide) ?_
                refine lv_aload_n hx hb d_Ed_perform_299 rfl (lv_at hl 0 rfl) ?_
                refine lv_aload_n hx hb d_Ed_perform_300 rfl (lv_at hl 1 rfl) ?_
                obtain ⟨u53, eu53, hf⟩ := z_bs hf
                obtain ⟨r54, er54, hf⟩ := z_bs hf
                obtain ⟨q57, h56⟩ := r54
                rcases q57 with x55 | E58
                · have hf := zx_kl hf
                  refine zx_callV (r := .inl none) (As := [.ref v1]) (rest := []) (h' := h56) X hSt hI eu53 (s_Ed_append hlt er54) rfl rfl wm_Ed_200 yi_Ed_append rfl hl.1 rfl (Nat.le_of_ble_eq_true rfl) (by decide) (by decide) d_Ed_perform_301 (fun v er H locs hI => ?_) (fun E er => by cases er)
                  cases er
                  refine W.eq (g2 := F0 m 304 ls []) rfl ?_
                  refine lv_goto (tgt := 486) hx hb d_Ed_perform_304 (by decide) ?_
                  cases hf
                  exact zx_ret (z_vret X hI d_Ed_perform_486)
                · cases zx_kr hf
                  exact zx_callV (r := .inr E58) (As := [.ref v1]) (rest := []) X hSt hI eu53 (s_Ed_append hlt er54) rfl rfl wm_Ed_200 yi_Ed_append rfl hl.1 rfl (Nat.le_of_ble_eq_true rfl) (by decide) (by decide) d_Ed_perform_301 (fun v er => by cases er) (fun E er H locs q ce hI hce hcv hcl => by cases er; exact zx_out X hno hI hce hcv hcl)
              · rw [if_neg c52] at hf
                by_cases c59 : x1 = 98
                · rw [if_pos c59] at hf
                  refine lv_tableIn (off := 260) (tgt := 264) hx hb d_Ed_perform_4 (by rw [c59]; decide) (by rw [c59]; decide) (by rw [c59]; rfl) (by decide) ?_
                  refine lv_aload_n hx hb d_Ed_perform_264 rfl (lv_at hl 0 rfl) ?_
                  refine lv_aload_n hx hb d_Ed_perform_265 rfl (lv_at hl 1 rfl) ?_
                  obtain ⟨x60, ex60, hf⟩ := z_bs hf
                  refine z_getF X hI (k := 7) (ci := 1) (gI_s ex60) i_Cmd rfl (by decide) wf_Ed_93 d_Ed_perform_266 ?_
                  obtain ⟨h61, eh61, hf⟩ := z_bs hf
                  refine z_putF X hI (k := 13) (ci := 3) (ty0 := t_Ed) eh61 i_Ed t_Ed_ok n_Ed rfl (by decide) wf_Ed_58 rfl rfl rfl d_Ed_perform_269 (fun H locs hI => ?_)
                  refine lv_goto (tgt := 486) hx hb d_Ed_perform_272 (by decide) ?_
                  cases hf
                  exact zx_ret (z_vret X hI d_Ed_perform_486)
                · rw [if_neg c59] at hf
                  by_cases c62 : x1 = 99
                  · rw [if_pos c62] at hf
                    refine lv_tableIn (off := 325) (tgt := 329) hx hb d_Ed_perform_4 (by rw [c62]; decide) (by rw [c62]; decide) (by rw [c62]; rfl) (by decide) ?_
                    refine lv_aload_n hx hb d_Ed_perform_329 rfl (lv_at hl 0 rfl) ?_
                    refine lv_aload_n hx hb d_Ed_perform_330 rfl (lv_at hl 1 rfl) ?_
                    obtain ⟨u63, eu63, hf⟩ := z_bs hf
                    obtain ⟨r64, er64, hf⟩ := z_bs hf
                    obtain ⟨q67, h66⟩ := r64
                    rcases q67 with x65 | E68
                    · have hf := zx_kl hf
                      refine zx_callV (r := .inl none) (As := [.ref v1]) (rest := []) (h' := h66) X hSt hI eu63 (s_Ed_change hlt er64) rfl rfl wm_Ed_212 yi_Ed_change rfl hl.1 rfl (Nat.le_of_ble_eq_true rfl) (by decide) (by decide) d_Ed_perform_331 (fun v er H locs hI => ?_) (fun E er => by cases er)
                      cases er
                      refine W.eq (g2 := F0 m 334 ls []) rfl ?_
                      refine lv_goto (tgt := 486) hx hb d_Ed_perform_334 (by decide) ?_
                      cases hf
                      exact zx_ret (z_vret X hI d_Ed_perform_486)
                    · cases zx_kr hf
                      exact zx_callV (r := .inr E68) (As := [.ref v1]) (rest := []) X hSt hI eu63 (s_Ed_change hlt er64) rfl rfl wm_Ed_212 yi_Ed_change rfl hl.1 rfl (Nat.le_of_ble_eq_true rfl) (by decide) (by decide) d_Ed_perform_331 (fun v er => by cases er) (fun E er H locs q ce hI hce hcv hcl => by cases er; exact zx_out X hno hI hce hcv hcl)
                  · rw [if_neg c62] at hf
                    by_cases c69 : x1 = 100
                    · rw [if_pos c69] at hf
                      refine lv_tableIn (off := 333) (tgt := 337) hx hb d_Ed_perform_4 (by rw [c69]; decide) (by rw [c69]; decide) (by rw [c69]; rfl) (by decide) ?_
                      refine lv_aload_n hx hb d_Ed_perform_337 rfl (lv_at hl 0 rfl) ?_
                      refine lv_iconst (v := 0) hx hb d_Ed_perform_338 (by decide) ?_
                      obtain ⟨u70, eu70, hf⟩ := z_bs hf
                      obtain ⟨r71, er71, hf⟩ := z_bs hf
                      obtain ⟨q74, h73⟩ := r71
                      rcases q74 with x72 | E75
                      · have hf := zx_kl hf
                        refine zx_callV (r := .inl none) (As := [.int 0]) (rest := []) (h' := h73) X hSt hI eu70 (s_Ed_endCycle hlt er71) rfl rfl wm_Ed_66 yi_Ed_endCycle rfl hl.1 rfl (Nat.le_of_ble_eq_true rfl) (by decide) (by decide) d_Ed_perform_339 (fun v er H locs hI => ?_) (fun E er => by cases er)
                        cases er
                        refine W.eq (g2 := F0 m 342 ls []) rfl ?_
                        refine lv_goto (tgt := 486) hx hb d_Ed_perform_342 (by decide) ?_
                        cases hf
                        exact zx_ret (z_vret X hI d_Ed_perform_486)
                      · cases zx_kr hf
                        exact zx_callV (r := .inr E75) (As := [.int 0]) (rest := []) X hSt hI eu70 (s_Ed_endCycle hlt er71) rfl rfl wm_Ed_66 yi_Ed_endCycle rfl hl.1 rfl (Nat.le_of_ble_eq_true rfl) (by decide) (by decide) d_Ed_perform_339 (fun v er => by cases er) (fun E er H locs q ce hI hce hcv hcl => by cases er; exact zx_out X hno hI hce hcv hcl)
                    · rw [if_neg c69] at hf
                      by_cases c76 : x1 = 103
                      · rw [if_pos c76] at hf
                        refine lv_tableIn (off := 431) (tgt := 435) hx hb d_Ed_perform_4 (by rw [c76]; decide) (by rw [c76]; decide) (by rw [c76]; rfl) (by decide) ?_
                        refine lv_aload_n hx hb d_Ed_perform_435 rfl (lv_at hl 0 rfl) ?_
                        refine lv_aload_n hx hb d_Ed_perform_436 rfl (lv_at hl 0 rfl) ?_
                        obtain ⟨x77, ex77, hf⟩ := z_bs hf
                        refine z_getF X hI (k := 2) (ci := 3) (gR_s ex77) i_Ed rfl (by decide) wf_Ed_23 d_Ed_perform_437 ?_
                        refine lv_aload_n hx hb d_Ed_perform_440 rfl (lv_at hl 0 rfl) ?_
                        obtain ⟨x78, ex78, hf⟩ := z_bs hf
                        refine z_getF X hI (k := 1) (ci := 3) (gR_s ex78) i_Ed rfl (by decide) wf_Ed_20 d_Ed_perform_441 ?_
                        obtain ⟨u79, eu79, hf⟩ := z_bs hf
                        obtain ⟨r80, er80, hf⟩ := z_bs hf
                        refine z_callV (As := [.ref x77, .ref x78]) (rest := []) (r := none) (h' := r80) X hI eu79 (s_Ed_copy er80) rfl rfl wm_Ed_228 yi_Ed_copy rfl hl.1 rfl (Nat.le_of_ble_eq_true rfl) (by decide) (by decide) d_Ed_perform_444 (fun H locs hI => ?_)
                        refine W.eq (g2 := F0 m 447 ls []) rfl ?_
                        refine lv_goto (tgt := 486) hx hb d_Ed_perform_447 (by decide) ?_
                        cases hf
                        exact zx_ret (z_vret X hI d_Ed_perform_486)
                      · rw [if_neg c76] at hf
                        by_cases c81 : x1 = 104
                        · rw [if_pos c81] at hf
                          refine lv_tableIn (off := 401) (tgt := 405) hx hb d_Ed_perform_4 (by rw [c81]; decide) (by rw [c81]; decide) (by rw [c81]; rfl) (by decide) ?_
                          refine lv_aload_n hx hb d_Ed_perform_405 rfl (lv_at hl 0 rfl) ?_
                          refine lv_aload_n hx hb d_Ed_perform_406 rfl (lv_at hl 0 rfl) ?_
                          obtain ⟨x82, ex82, hf⟩ := z_bs hf
                          refine z_getF X hI (k := 1) (ci := 3) (gR_s ex82) i_Ed rfl (by decide) wf_Ed_20 d_Ed_perform_407 ?_
                          refine lv_aload_n hx hb d_Ed_perform_410 rfl (lv_at hl 0 rfl) ?_
                          obtain ⟨x83, ex83, hf⟩ := z_bs hf
                          refine z_getF X hI (k := 2) (ci := 3) (gR_s ex83) i_Ed rfl (by decide) wf_Ed_23 d_Ed_perform_411 ?_
                          obtain ⟨u84, eu84, hf⟩ := z_bs hf
                          obtain ⟨r85, er85, hf⟩ := z_bs hf
                          refine z_callV (As := [.ref x82, .ref x83]) (rest := []) (r := none) (h' := r85) X hI eu84 (s_Ed_copy er85) rfl rfl wm_Ed_228 yi_Ed_copy rfl hl.1 rfl (Nat.le_of_ble_eq_true rfl) (by decide) (by decide) d_Ed_perform_414 (fun H locs hI => ?_)
                          refine W.eq (g2 := F0 m 417 ls []) rfl ?_
                          refine lv_goto (tgt := 486) hx hb d_Ed_perform_417 (by decide) ?_
                          cases hf
                          exact zx_ret (z_vret X hI d_Ed_perform_486)
                        · rw [if_neg c81] at hf
                          by_cases c86 : x1 = 105
                          · rw [if_pos c86] at hf
                            refine lv_tableIn (off := 303) (tgt := 307) hx hb d_Ed_perform_4 (by rw [c86]; decide) (by rw [c86]; decide) (by rw [c86]; rfl) (by decide) ?_
                            refine lv_aload_n hx hb d_Ed_perform_307 rfl (lv_at hl 0 rfl) ?_
                            refine lv_aload_n hx hb d_Ed_perform_308 rfl (lv_at hl 0 rfl) ?_
                            obtain ⟨x87, ex87, hf⟩ := z_bs hf
                            refine z_getF X hI (k := 10) (ci := 3) (gR_s ex87) i_Ed rfl (by decide) wf_Ed_39 d_Ed_perform_309 ?_
                            obtain ⟨x88, ex88, hf⟩ := z_bs hf
                            refine z_getF X hI (k := 0) (ci := 9) (gR_s ex88) i_Prog rfl (by decide) wf_Ed_203 d_Ed_perform_312 ?_
                            refine lv_aload_n hx hb d_Ed_perform_315 rfl (lv_at hl 1 rfl) ?_
                            obtain ⟨x89, ex89, hf⟩ := z_bs hf
                            refine z_getF X hI (k := 9) (ci := 1) (gI_s ex89) i_Cmd rfl (by decide) wf_Ed_206 d_Ed_perform_316 ?_
                            refine lv_aload_n hx hb d_Ed_perform_319 rfl (lv_at hl 1 rfl) ?_
                            obtain ⟨x90, ex90, hf⟩ := z_bs hf
                            refine z_getF X hI (k := 10) (ci := 1) (gI_s ex90) i_Cmd rfl (by decide) wf_Ed_209 d_Ed_perform_320 ?_
                            obtain ⟨u91, eu91, hf⟩ := z_bs hf
                            obtain ⟨r92, er92, hf⟩ := z_bs hf
                            obtain ⟨q95, h94⟩ := r92
                            rcases q95 with x93 | E96
                            · have hf := zx_kl hf
                              refine zx_callV (r := .inl none) (As := [.ref x88, .int x89, .int x90]) (rest := []) (h' := h94) X hSt hI eu91 (s_Ed_tell hlt er92) rfl rfl wm_Ed_130 yi_Ed_tell rfl hl.1 rfl (Nat.le_of_ble_eq_true rfl) (by decide) (by decide) d_Ed_perform_323 (fun v er H locs hI => ?_) (fun E er => by cases er)
                              cases er
                              refine W.eq (g2 := F0 m 326 ls []) rfl ?_
                              refine lv_goto (tgt := 486) hx hb d_Ed_perform_326 (by decide) ?_
                              cases hf
                              exact zx_ret (z_vret X hI d_Ed_perform_486)
                            · cases zx_kr hf
                              exact zx_callV (r := .inr E96) (As := [.ref x88, .int x89, .int x90]) (rest := []) X hSt hI eu91 (s_Ed_tell hlt er92) rfl rfl wm_Ed_130 yi_Ed_tell rfl hl.1 rfl (Nat.le_of_ble_eq_true rfl) (by decide) (by decide) d_Ed_perform_323 (fun v er => by cases er) (fun E er H locs q ce hI hce hcv hcl => by cases er; exact zx_out X hno hI hce hcv hcl)
                          · rw [if_neg c86] at hf
                            by_cases c97 : x1 = 110
                            · rw [if_pos c97] at hf
                              refine lv_tableIn (off := 387) (tgt := 391) hx hb d_Ed_perform_4 (by rw [c97]; decide) (by rw [c97]; decide) (by rw [c97]; rfl) (by decide) ?_
                              refine lv_aload_n hx hb d_Ed_perform_391 rfl (lv_at hl 0 rfl) ?_
                              obtain ⟨u98, eu98, hf⟩ := z_bs hf
                              obtain ⟨r99, er99, hf⟩ := z_bs hf
                              obtain ⟨q102, h101⟩ := r99
                              rcases q102 with x100 | E103
                              · have hf := zx_kl hf
                                refine zx_callV (r := .inl none) (As := []) (rest := []) (h' := h101) X hSt hI eu98 (s_Ed_replaceByNext hlt er99) rfl rfl wm_Ed_222 yi_Ed_replaceByNext rfl hl.1 rfl (Nat.le_of_ble_eq_true rfl) (by decide) (by decide) d_Ed_perform_392 (fun v er H locs hI => ?_) (fun E er => by cases er)
                                cases er
                                refine W.eq (g2 := F0 m 395 ls []) rfl ?_
                                refine lv_goto (tgt := 486) hx hb d_Ed_perform_395 (by decide) ?_
                                cases hf
                                exact zx_ret (z_vret X hI d_Ed_perform_486)
                              · cases zx_kr hf
                                exact zx_callV (r := .inr E103) (As := []) (rest := []) X hSt hI eu98 (s_Ed_replaceByNext hlt er99) rfl rfl wm_Ed_222 yi_Ed_replaceByNext rfl hl.1 rfl (Nat.le_of_ble_eq_true rfl) (by decide) (by decide) d_Ed_perform_392 (fun v er => by cases er) (fun E er H locs q ce hI hce hcv hcl => by cases er; exact zx_out X hno hI hce hcv hcl)
                            · rw [if_neg c97] at hf
                              by_cases c104 : x1 = 112
                              · rw [if_pos c104] at hf
                                refine lv_tableIn (off := 348) (tgt := 352) hx hb d_Ed_perform_4 (by rw [c104]; decide) (by rw [c104]; decide) (by rw [c104]; rfl) (by decide) ?_
                                refine lv_aload_n hx hb d_Ed_perform_352 rfl (lv_at hl 0 rfl) ?_
                                refine lv_aload_n hx hb d_Ed_perform_353 rfl (lv_at hl 0 rfl) ?_
                                obtain ⟨x105, ex105, hf⟩ := z_bs hf
                                refine z_getF X hI (k := 1) (ci := 3) (gR_s ex105) i_Ed rfl (by decide) wf_Ed_20 d_Ed_perform_354 ?_
                                refine lv_iconst (v := 0) hx hb d_Ed_perform_357 (by decide) ?_
                                refine lv_aload_n hx hb d_Ed_perform_358 rfl (lv_at hl 0 rfl) ?_
                                obtain ⟨x106, ex106, hf⟩ := z_bs hf
                                refine z_getF X hI (k := 1) (ci := 3) (gR_s ex106) i_Ed rfl (by decide) wf_Ed_20 d_Ed_perform_359 ?_
                                obtain ⟨x107, ex107, hf⟩ := z_bs hf
                                refine z_getF X hI (k := 1) (ci := 10) (gI_s ex107) i_Row rfl (by decide) wf_Ed_123 d_Ed_perform_362 ?_
                                obtain ⟨u108, eu108, hf⟩ := z_bs hf
                                obtain ⟨r109, er109, hf⟩ := z_bs hf
                                obtain ⟨q112, h111⟩ := r109
                                rcases q112 with x110 | E113
                                · have hf := zx_kl hf
                                  refine zx_callV (r := .inl none) (As := [.ref x105, .int 0, .int x107]) (rest := []) (h' := h111) X hSt hI eu108 (s_Ed_tell hlt er109) rfl rfl wm_Ed_130 yi_Ed_tell rfl hl.1 rfl (Nat.le_of_ble_eq_true rfl) (by decide) (by decide) d_Ed_perform_365 (fun v er H locs hI => ?_) (fun E er => by cases er)
                                  cases er
                                  refine W.eq (g2 := F0 m 368 ls []) rfl ?_
                                  refine lv_goto (tgt := 486) hx hb d_Ed_perform_368 (by decide) ?_
                                  cases hf
                                  exact zx_ret (z_vret X hI d_Ed_perform_486)
                                · cases zx_kr hf
                                  exact zx_callV (r := .inr E113) (As := [.ref x105, .int 0, .int x107]) (rest := []) X hSt hI eu108 (s_Ed_tell hlt er109) rfl rfl wm_Ed_130 yi_Ed_tell rfl hl.1 rfl (Nat.le_of_ble_eq_true rfl) (by decide) (by decide) d_Ed_perform_365 (fun v er => by cases er) (fun E er H locs q ce hI hce hcv hcl => by cases er; exact zx_out X hno hI hce hcv hcl)
                              · rw [if_neg c104] at hf
                                by_cases c114 : x1 = 113
                                · rw [if_pos c114] at hf
                                  refine lv_tableIn (off := 475) (tgt := 479) hx hb d_Ed_perform_4 (by rw [c114]; decide) (by rw [c114]; decide) (by rw [c114]; rfl) (by decide) ?_
                                  refine lv_aload_n hx hb d_Ed_perform_479 rfl (lv_at hl 0 rfl) ?_
                                  obtain ⟨u115, eu115, hf⟩ := z_bs hf
                                  obtain ⟨r116, er116, hf⟩ := z_bs hf
                                  obtain ⟨q119, h118⟩ := r116
                                  rcases q119 with x117 | E120
                                  · have hf := zx_kl hf
                                    refine zx_callV (r := .inl none) (As := []) (rest := []) (h' := h118) X hSt hI eu115 (s_Ed_quit hlt er116) rfl rfl wm_Ed_241 yi_Ed_quit rfl hl.1 rfl (Nat.le_of_ble_eq_true rfl) (by decide) (by decide) d_Ed_perform_480 (fun v er H locs hI => ?_) (fun E er => by cases er)
                                    cases er
                                    refine W.eq (g2 := F0 m 483 ls []) rfl ?_
                                    refine lv_goto (tgt := 486) hx hb d_Ed_perform_483 (by decide) ?_
                                    cases hf
                                    exact zx_ret (z_vret X hI d_Ed_perform_486)
                                  · cases zx_kr hf
                                    exact zx_callV (r := .inr E120) (As := []) (rest := []) X hSt hI eu115 (s_Ed_quit hlt er116) rfl rfl wm_Ed_241 yi_Ed_quit rfl hl.1 rfl (Nat.le_of_ble_eq_true rfl) (by decide) (by decide) d_Ed_perform_480 (fun v er => by cases er) (fun E er H locs q ce hI hce hcv hcl => by cases er; exact zx_out X hno hI hce hcv hcl)
                                · rw [if_neg c114] at hf
                                  by_cases c121 : x1 = 115
                                  · rw [if_pos c121] at hf
                                    refine lv_tableIn (off := 279) (tgt := 283) hx hb d_Ed_perform_4 (by rw [c121]; decide) (by rw [c121]; decide) (by rw [c121]; rfl) (by decide) ?_
                                    refine lv_aload_n hx hb d_Ed_perform_283 rfl (lv_at hl 0 rfl) ?_
                                    refine lv_aload_n hx hb d_Ed_perform_284 rfl (lv_at hl 1 rfl) ?_
                                    obtain ⟨u122, eu122, hf⟩ := z_bs hf
                                    obtain ⟨r123, er123, hf⟩ := z_bs hf
                                    obtain ⟨q126, h125⟩ := r123
                                    rcases q126 with x124 | E127
                                    · have hf := zx_kl hf
                                      refine zx_callV (r := .inl none) (As := [.ref v1]) (rest := []) (h' := h125) X hSt hI eu122 (s_Ed_substitute hlt er123) rfl rfl wm_Ed_194 yi_Ed_substitute rfl hl.1 rfl (Nat.le_of_ble_eq_true rfl) (by decide) (by decide) d_Ed_perform_285 (fun v er H locs hI => ?_) (fun E er => by cases er)
                                      cases er
                                      refine W.eq (g2 := F0 m 288 ls []) rfl ?_
                                      refine lv_goto (tgt := 486) hx hb d_Ed_perform_288 (by decide) ?_
                                      cases hf
                                      exact zx_ret (z_vret X hI d_Ed_perform_486)
                                    · cases zx_kr hf
                                      exact zx_callV (r := .inr E127) (As := [.ref v1]) (rest := []) X hSt hI eu122 (s_Ed_substitute hlt er123) rfl rfl wm_Ed_194 yi_Ed_substitute rfl hl.1 rfl (Nat.le_of_ble_eq_true rfl) (by decide) (by decide) d_Ed_perform_285 (fun v er => by cases er) (fun E er H locs q ce hI hce hcv hcl => by cases er; exact zx_out X hno hI hce hcv hcl)
                                  · rw [if_neg c121] at hf
                                    by_cases c128 : x1 = 116
                                    · rw [if_pos c128] at hf
                                      refine lv_tableIn (off := 271) (tgt := 275) hx hb d_Ed_perform_4 (by rw [c128]; decide) (by rw [c128]; decide) (by rw [c128]; rfl) (by decide) ?_
                                      refine lv_aload_n hx hb d_Ed_perform_275 rfl (lv_at hl 0 rfl) ?_
                                      refine lv_aload_n hx hb d_Ed_perform_276 rfl (lv_at hl 1 rfl) ?_
                                      obtain ⟨u129, eu129, hf⟩ := z_bs hf
                                      obtain ⟨r130, er130, hf⟩ := z_bs hf
                                      refine z_callV (As := [.ref v1]) (rest := []) (r := none) (h' := r130) X hI eu129 (s_Ed_branchIfReplaced er130) rfl rfl wm_Ed_191 yi_Ed_branchIfReplaced rfl hl.1 rfl (Nat.le_of_ble_eq_true rfl) (by decide) (by decide) d_Ed_perform_277 (fun H locs hI => ?_)
                                      refine W.eq (g2 := F0 m 280 ls []) rfl ?_
                                      refine lv_goto (tgt := 486) hx hb d_Ed_perform_280 (by decide) ?_
                                      cases hf
                                      exact zx_ret (z_vret X hI d_Ed_perform_486)
                                    · rw [if_neg c128] at hf
                                      by_cases c131 : x1 = 120
                                      · rw [if_pos c131] at hf
                                        refine lv_tableIn (off := 461) (tgt := 465) hx hb d_Ed_perform_4 (by rw [c131]; decide) (by rw [c131]; decide) (by rw [c131]; rfl) (by decide) ?_
                                        refine lv_aload_n hx hb d_Ed_perform_465 rfl (lv_at hl 0 rfl) ?_
                                        obtain ⟨u132, eu132, hf⟩ := z_bs hf
                                        obtain ⟨r133, er133, hf⟩ := z_bs hf
                                        refine z_callV (As := []) (rest := []) (r := none) (h' := r133) X hI eu132 (s_Ed_swap er133) rfl rfl wm_Ed_235 yi_Ed_swap rfl hl.1 rfl (Nat.le_of_ble_eq_true rfl) (by decide) (by decide) d_Ed_perform_466 (fun H locs hI => ?_)
                                        refine W.eq (g2 := F0 m 469 ls []) rfl ?_
                                        refine lv_goto (tgt := 486) hx hb d_Ed_perform_469 (by decide) ?_
                                        cases hf
                                        exact zx_ret (z_vret X hI d_Ed_perform_486)
                                      · rw [if_neg c131] at hf
                                        by_cases c134 : x1 = 121
                                        · rw [if_pos c134] at hf
                                          refine lv_tableIn (off := 287) (tgt := 291) hx hb d_Ed_perform_4 (by rw [c134]; decide) (by rw [c134]; decide) (by rw [c134]; rfl) (by decide) ?_
                                          refine lv_aload_n hx hb d_Ed_perform_291 rfl (lv_at hl 0 rfl) ?_
                                          refine lv_aload_n hx hb d_Ed_perform_292 rfl (lv_at hl 1 rfl) ?_
                                          obtain ⟨u135, eu135, hf⟩ := z_bs hf
                                          obtain ⟨r136, er136, hf⟩ := z_bs hf
                                          refine z_callV (As := [.ref v1]) (rest := []) (r := none) (h' := r136) X hI eu135 (s_Ed_exchange er136) rfl rfl wm_Ed_197 yi_Ed_exchange rfl hl.1 rfl (Nat.le_of_ble_eq_true rfl) (by decide) (by decide) d_Ed_perform_293 (fun H locs hI => ?_)
                                          refine W.eq (g2 := F0 m 296 ls []) rfl ?_
                                          refine lv_goto (tgt := 486) hx hb d_Ed_perform_296 (by decide) ?_
                                          cases hf
                                          exact zx_ret (z_vret X hI d_Ed_perform_486)
                                        · rw [if_neg c134] at hf
                                          refine z_tabD (ks := [61, 68, 71, 72, 78, 80, 97, 98, 99, 100, 103, 104, 105, 110, 112, 113, 115, 116, 120, 121]) (tgt := 486) hx hb d_Ed_perform_4 (by decide) (by decide) (by simp only [List.forall_mem_cons, List.not_mem_nil, false_implies, implies_true, and_true]; exact ⟨z_ne c2 (by decide), z_ne c9 (by decide), z_ne c16 (by decide), z_ne c25 (by decide), z_ne c34 (by decide), z_ne c41 (by decide), z_ne c52 (by decide), z_ne c59 (by decide), z_ne c62 (by decide), z_ne c69 (by decide), z_ne c76 (by decide), z_ne c81 (by decide), z_ne c86 (by decide), z_ne c97 (by decide), z_ne c104 (by decide), z_ne c114 (by decide), z_ne c121 (by decide), z_ne c128 (by decide), z_ne c131 (by decide), z_ne c134 (by decide)⟩) (by decide) ?_
                                          cases hf
                                          exact zx_ret (z_vret X hI d_Ed_perform_486)
def f_Ed_edit_22 (N : Nat)  : Nat → Nat → Int32 → z_H → Option ((Unit ⊕ String) × z_H)
  | 0, _, _, _ => none
  | n + 1, v0, v4, h =>
    if 1000 ≤ v4 then
    (some (.inl (), h))
    else
    (z_b (gI h v0 3 14) fun x2 =>
    if x2 = 0 then
    (z_b (gI h v0 3 13) fun x4 =>
    z_b (gR h v0 3 10) fun x5 =>
    z_b (gI h x5 9 3) fun x6 =>
    if x4 < x6 then
    (z_b (gI h v0 3 4) fun x8 =>
    if x8 = 200 then
    (some (.inr xE4, h))
    else
    (z_b (gI h v0 3 4) fun x10 =>
    z_b (sF h v0 3 4 (.int (x10 + 1))) fun h11 =>
    z_b (gR h11 v0 3 10) fun x12 =>
    z_b (gR h11 x12 9 2) fun x13 =>
    z_b (gI h11 v0 3 13) fun x14 =>
    z_b (aR h11 x13 5 x14) fun x15 =>
    z_b (gI h11 v0 3 13) fun x16 =>
    z_b (sF h11 v0 3 13 (.int (x16 + 1))) fun h17 =>
    z_b (gO h17 v0 3) fun u18 =>
    z_b (f_Ed_isDone N v0 x15 h17) fun r19 =>
    if (r19.1) = 0 then
    (z_b (gI r19.2 x15 1 3) fun x21 =>
    if x21 = 123 then
    (z_b (gI r19.2 x15 1 7) fun x24 =>
    z_b (sF r19.2 v0 3 13 (.int x24)) fun h25 =>
    z_b (some (v4 + 1)) fun x26 =>
    (f_Ed_edit_22 N  n) v0 x26 h25)
    else
    (z_b (some (v4 + 1)) fun x23 =>
    (f_Ed_edit_22 N  n) v0 x23 r19.2))
    else
    (z_b (gO r19.2 v0 3) fun u27 =>
    z_b (f_Ed_perform N v0 x15 r19.2) fun r28 =>
    zx_k r28 fun x29 h30 =>
    z_b (some (v4 + 1)) fun x33 =>
    (f_Ed_edit_22 N  n) v0 x33 h30)))
    else
    (z_b (gO h v0 3) fun u34 =>
    z_b (f_Ed_endCycle N v0 1 h) fun r35 =>
    zx_k r35 fun x36 h37 =>
    z_b (some (v4 + 1)) fun x40 =>
    (f_Ed_edit_22 N  n) v0 x40 h37))
    else
    (some (.inl (), h)))
set_option maxRecDepth 20000 in
set_option maxHeartbeats 2000000 in
theorem s_Ed_edit_22 (X : z_X p s m args meth c prog_5_method_2_code 6 none Ts "StreamForge$Editor" D dA B) {N : Nat} {r : Unit ⊕ String} (hlt : l.stackTraces = false) (hno : ∀ x ∈ c.exceptionTable.toList, False) (hSt : z_St B s s.heap) {h' : z_H}   : ∀ n : Nat, ∀ (v0 : Nat) (v4 : Int32) (h : z_H) (H : Heap) (locs : List Loc) (ls : Array Slot), z_I D dA B h s.heap H locs → lv_has ls 6 [(0, .ref v0), (4, .int v4)] → f_Ed_edit_22 N  n v0 v4 h = some (r, h') → W p l e (zx_rm 11 204) s m args below meth c H locs 0 0 (zx_MQ below D dA B (zx_rv r) h' args s) (F0 m 22 ls []) := by
  have hx := z_hx X
  have hb := z_hb X
  intro n
  induction n with
  | zero => intro v0 v4 h H locs ls hI hl hf; rw [f_Ed_edit_22] at hf; cases hf
  | succ n ih =>
    intro v0 v4 h H locs ls hI hl hf
    rw [f_Ed_edit_22] at hf
    refine lv_iload hx hb d_Ed_edit_22 (lv_at hl 1 rfl) ?_
    refine lv_sipush (v := 1000) hx hb d_Ed_edit_24 (by decide) ?_
    refine lv_icmp_ge (tgt := 154) hx hb d_Ed_edit_27 (by decide) (fun c1 => ?_) (fun c1 => ?_)
    · rw [if_pos c1] at hf
      cases hf
      exact zx_ret (z_vret X hI d_Ed_edit_154)
    · rw [if_neg c1] at hf
      refine lv_aload_n hx hb d_Ed_edit_30 rfl (lv_at hl 0 rfl) ?_
      obtain ⟨x2, ex2, hf⟩ := z_bs hf
      refine z_getF X hI (k := 14) (ci := 3) (gI_s ex2) i_Ed rfl (by decide) wf_Ed_54 d_Ed_edit_31 ?_
      refine lv_if_ne (tgt := 154) hx hb d_Ed_edit_34 (by decide) (fun c3 => ?_) (fun c3 => ?_)
      · rw [if_neg c3] at hf
        cases hf
        exact zx_ret (z_vret X hI d_Ed_edit_154)
      · rw [if_pos c3] at hf
        refine lv_aload_n hx hb d_Ed_edit_37 rfl (lv_at hl 0 rfl) ?_
        obtain ⟨x4, ex4, hf⟩ := z_bs hf
        refine z_getF X hI (k := 13) (ci := 3) (gI_s ex4) i_Ed rfl (by decide) wf_Ed_58 d_Ed_edit_38 ?_
        refine lv_aload_n hx hb d_Ed_edit_41 rfl (lv_at hl 0 rfl) ?_
        obtain ⟨x5, ex5, hf⟩ := z_bs hf
        refine z_getF X hI (k := 10) (ci := 3) (gR_s ex5) i_Ed rfl (by decide) wf_Ed_39 d_Ed_edit_42 ?_
        obtain ⟨x6, ex6, hf⟩ := z_bs hf
        refine z_getF X hI (k := 3) (ci := 9) (gI_s ex6) i_Prog rfl (by decide) wf_Ed_61 d_Ed_edit_45 ?_
        refine lv_icmp_lt (tgt := 59) hx hb d_Ed_edit_48 (by decide) (fun c7 => ?_) (fun c7 => ?_)
        · rw [if_pos c7] at hf
          refine lv_aload_n hx hb d_Ed_edit_59 rfl (lv_at hl 0 rfl) ?_
          obtain ⟨x8, ex8, hf⟩ := z_bs hf
          refine z_getF X hI (k := 4) (ci := 3) (gI_s ex8) i_Ed rfl (by decide) wf_Ed_70 d_Ed_edit_60 ?_
          refine lv_sipush (v := 200) hx hb d_Ed_edit_63 (by decide) ?_
          refine lv_icmp_ne (tgt := 77) hx hb d_Ed_edit_66 (by decide) (fun c9 => ?_) (fun c9 => ?_)
          · rw [if_neg c9] at hf
            refine lv_aload_n hx hb d_Ed_edit_77 rfl (lv_at hl 0 rfl) ?_
            refine lv_dup hx hb d_Ed_edit_78 rfl ?_
            obtain ⟨x10, ex10, hf⟩ := z_bs hf
            refine z_getF X hI (k := 4) (ci := 3) (gI_s ex10) i_Ed rfl (by decide) wf_Ed_70 d_Ed_edit_79 ?_
            refine lv_iconst (v := 1) hx hb d_Ed_edit_82 (by decide) ?_
            refine lv_iadd hx hb d_Ed_edit_83 ?_
            obtain ⟨h11, eh11, hf⟩ := z_bs hf
            refine z_putF X hI (k := 4) (ci := 3) (ty0 := t_Ed) eh11 i_Ed t_Ed_ok n_Ed rfl (by decide) wf_Ed_70 rfl rfl rfl d_Ed_edit_84 (fun H locs hI => ?_)
            refine lv_aload_n hx hb d_Ed_edit_87 rfl (lv_at hl 0 rfl) ?_
            obtain ⟨x12, ex12, hf⟩ := z_bs hf
            refine z_getF X hI (k := 10) (ci := 3) (gR_s ex12) i_Ed rfl (by decide) wf_Ed_39 d_Ed_edit_88 ?_
            obtain ⟨x13, ex13, hf⟩ := z_bs hf
            refine z_getF X hI (k := 2) (ci := 9) (gR_s ex13) i_Prog rfl (by decide) wf_Ed_76 d_Ed_edit_91 ?_
            refine lv_aload_n hx hb d_Ed_edit_94 rfl (lv_at hl 0 rfl) ?_
            obtain ⟨x14, ex14, hf⟩ := z_bs hf
            refine z_getF X hI (k := 13) (ci := 3) (gI_s ex14) i_Ed rfl (by decide) wf_Ed_58 d_Ed_edit_95 ?_
            obtain ⟨x15, ex15, hf⟩ := z_bs hf
            refine z_aald5 X hI ex15 d_Ed_edit_98 ?_
            refine lv_astore (lv' := [(5, .ref x15), (0, .ref v0), (4, .int v4)]) hx hb d_Ed_edit_99 hl (by decide) rfl (fun ls hl => ?_)
            refine lv_aload_n hx hb d_Ed_edit_101 rfl (lv_at hl 1 rfl) ?_
            refine lv_dup hx hb d_Ed_edit_102 rfl ?_
            obtain ⟨x16, ex16, hf⟩ := z_bs hf
            refine z_getF X hI (k := 13) (ci := 3) (gI_s ex16) i_Ed rfl (by decide) wf_Ed_58 d_Ed_edit_103 ?_
            refine lv_iconst (v := 1) hx hb d_Ed_edit_106 (by decide) ?_
            refine lv_iadd hx hb d_Ed_edit_107 ?_
            obtain ⟨h17, eh17, hf⟩ := z_bs hf
            refine z_putF X hI (k := 13) (ci := 3) (ty0 := t_Ed) eh17 i_Ed t_Ed_ok n_Ed rfl (by decide) wf_Ed_58 rfl rfl rfl d_Ed_edit_108 (fun H locs hI => ?_)
            refine lv_aload_n hx hb d_Ed_edit_111 rfl (lv_at hl 1 rfl) ?_
            refine lv_aload hx hb d_Ed_edit_112 (lv_at hl 0 rfl) ?_
            obtain ⟨u18, eu18, hf⟩ := z_bs hf
            obtain ⟨r19, er19, hf⟩ := z_bs hf
            refine z_callV (As := [.ref x15]) (rest := []) (r := (some (.int r19.1))) (h' := r19.2) X hI eu18 (s_Ed_isDone er19) rfl rfl wm_Ed_80 yi_Ed_isDone rfl hl.1 rfl (Nat.le_of_ble_eq_true rfl) (by decide) (by decide) d_Ed_edit_114 (fun H locs hI => ?_)
            refine W.eq (g2 := F0 m 117 ls [.int (r19.1)]) rfl ?_
            refine lv_if_eq (tgt := 129) hx hb d_Ed_edit_117 (by decide) (fun c20 => ?_) (fun c20 => ?_)
            · rw [if_pos c20] at hf
              refine lv_aload hx hb d_Ed_edit_129 (lv_at hl 0 rfl) ?_
              obtain ⟨x21, ex21, hf⟩ := z_bs hf
              refine z_getF X hI (k := 3) (ci := 1) (gI_s ex21) i_Cmd rfl (by decide) wf_Ed_88 d_Ed_edit_131 ?_
              refine lv_bipush (v := 123) hx hb d_Ed_edit_134 (by decide) ?_
              refine lv_icmp_ne (tgt := 148) hx hb d_Ed_edit_136 (by decide) (fun c22 => ?_) (fun c22 => ?_)
              · rw [if_neg c22] at hf
                obtain ⟨x23, ex23, hf⟩ := z_bs hf
                refine lv_iinc (v := x23) (lv' := [(4, .int x23), (5, .ref x15), (0, .ref v0)]) hx hb d_Ed_edit_148 hl (k := 2) rfl (by rw [← Option.some.inj ex23]; rfl) (by decide) rfl (fun ls hl => ?_)
                refine lv_goto (tgt := 22) hx hb d_Ed_edit_151 (by decide) ?_
                exact ih v0 x23 r19.2 _ _ _ hI (lv_sub hl [2, 0] rfl) hf
              · rw [if_pos c22] at hf
                refine lv_aload_n hx hb d_Ed_edit_139 rfl (lv_at hl 1 rfl) ?_
                refine lv_aload hx hb d_Ed_edit_140 (lv_at hl 0 rfl) ?_
                obtain ⟨x24, ex24, hf⟩ := z_bs hf
                refine z_getF X hI (k := 7) (ci := 1) (gI_s ex24) i_Cmd rfl (by decide) wf_Ed_93 d_Ed_edit_142 ?_
                obtain ⟨h25, eh25, hf⟩ := z_bs hf
                refine z_putF X hI (k := 13) (ci := 3) (ty0 := t_Ed) eh25 i_Ed t_Ed_ok n_Ed rfl (by decide) wf_Ed_58 rfl rfl rfl d_Ed_edit_145 (fun H locs hI => ?_)
                obtain ⟨x26, ex26, hf⟩ := z_bs hf
                refine lv_iinc (v := x26) (lv' := [(4, .int x26), (5, .ref x15), (0, .ref v0)]) hx hb d_Ed_edit_148 hl (k := 2) rfl (by rw [← Option.some.inj ex26]; rfl) (by decide) rfl (fun ls hl => ?_)
                refine lv_goto (tgt := 22) hx hb d_Ed_edit_151 (by decide) ?_
                exact ih v0 x26 h25 _ _ _ hI (lv_sub hl [2, 0] rfl) hf
            · rw [if_neg c20] at hf
              refine lv_aload_n hx hb d_Ed_edit_120 rfl (lv_at hl 1 rfl) ?_
              refine lv_aload hx hb d_Ed_edit_121 (lv_at hl 0 rfl) ?_
              obtain ⟨u27, eu27, hf⟩ := z_bs hf
              obtain ⟨r28, er28, hf⟩ := z_bs hf
              obtain ⟨q31, h30⟩ := r28
              rcases q31 with x29 | E32
              · have hf := zx_kl hf
                refine zx_callV (r := .inl none) (As := [.ref x15]) (rest := []) (h' := h30) X hSt hI eu27 (s_Ed_perform hlt er28) rfl rfl wm_Ed_84 yi_Ed_perform rfl hl.1 rfl (Nat.le_of_ble_eq_true rfl) (by decide) (by decide) d_Ed_edit_123 (fun v er H locs hI => ?_) (fun E er => by cases er)
                cases er
                refine W.eq (g2 := F0 m 126 ls []) rfl ?_
                refine lv_goto (tgt := 148) hx hb d_Ed_edit_126 (by decide) ?_
                obtain ⟨x33, ex33, hf⟩ := z_bs hf
                refine lv_iinc (v := x33) (lv' := [(4, .int x33), (5, .ref x15), (0, .ref v0)]) hx hb d_Ed_edit_148 hl (k := 2) rfl (by rw [← Option.some.inj ex33]; rfl) (by decide) rfl (fun ls hl => ?_)
                refine lv_goto (tgt := 22) hx hb d_Ed_edit_151 (by decide) ?_
                exact ih v0 x33 h30 _ _ _ hI (lv_sub hl [2, 0] rfl) hf
              · cases zx_kr hf
                exact zx_callV (r := .inr E32) (As := [.ref x15]) (rest := []) X hSt hI eu27 (s_Ed_perform hlt er28) rfl rfl wm_Ed_84 yi_Ed_perform rfl hl.1 rfl (Nat.le_of_ble_eq_true rfl) (by decide) (by decide) d_Ed_edit_123 (fun v er => by cases er) (fun E er H locs q ce hI hce hcv hcl => by cases er; exact zx_out X hno hI hce hcv hcl)
          · rw [if_pos c9] at hf
            cases hf
            exact zx_throw X hlt hno hSt hI xf4 wl_Ed_73 wi_x4 at_Ed_75 hl.1 d_Ed_edit_69 d_Ed_edit_72 d_Ed_edit_73 d_Ed_edit_76 ⟨by decide, Nat.le_of_ble_eq_true rfl, by decide, by decide⟩
        · rw [if_neg c7] at hf
          refine lv_aload_n hx hb d_Ed_edit_51 rfl (lv_at hl 0 rfl) ?_
          refine lv_iconst (v := 1) hx hb d_Ed_edit_52 (by decide) ?_
          obtain ⟨u34, eu34, hf⟩ := z_bs hf
          obtain ⟨r35, er35, hf⟩ := z_bs hf
          obtain ⟨q38, h37⟩ := r35
          rcases q38 with x36 | E39
          · have hf := zx_kl hf
            refine zx_callV (r := .inl none) (As := [.int 1]) (rest := []) (h' := h37) X hSt hI eu34 (s_Ed_endCycle hlt er35) rfl rfl wm_Ed_66 yi_Ed_endCycle rfl hl.1 rfl (Nat.le_of_ble_eq_true rfl) (by decide) (by decide) d_Ed_edit_53 (fun v er H locs hI => ?_) (fun E er => by cases er)
            cases er
            refine W.eq (g2 := F0 m 56 ls []) rfl ?_
            refine lv_goto (tgt := 148) hx hb d_Ed_edit_56 (by decide) ?_
            obtain ⟨x40, ex40, hf⟩ := z_bs hf
            refine lv_iinc (v := x40) (lv' := [(4, .int x40), (0, .ref v0)]) hx hb d_Ed_edit_148 hl (k := 1) rfl (by rw [← Option.some.inj ex40]; rfl) (by decide) rfl (fun ls hl => ?_)
            refine lv_goto (tgt := 22) hx hb d_Ed_edit_151 (by decide) ?_
            exact ih v0 x40 h37 _ _ _ hI (lv_sub hl [1, 0] rfl) hf
          · cases zx_kr hf
            exact zx_callV (r := .inr E39) (As := [.int 1]) (rest := []) X hSt hI eu34 (s_Ed_endCycle hlt er35) rfl rfl wm_Ed_66 yi_Ed_endCycle rfl hl.1 rfl (Nat.le_of_ble_eq_true rfl) (by decide) (by decide) d_Ed_edit_53 (fun v er => by cases er) (fun E er H locs q ce hI hce hcv hcl => by cases er; exact zx_out X hno hI hce hcv hcl)
def f_Ed_edit (N : Nat) (v0 : Nat) (v1 : Nat) (v2 : Nat) (v3 : Int32) (h : z_H) : Option ((Unit ⊕ String) × z_H) :=
  z_b (sF h v0 3 10 (.ref v1)) fun h1 =>
  z_b (sF h1 v0 3 11 (.ref v2)) fun h2 =>
  z_b (sF h2 v0 3 12 (.int v3)) fun h3 =>
  z_b (gO h3 v0 3) fun u4 =>
  z_b (f_Ed_begin N v0 h3) fun r5 =>
  f_Ed_edit_22 N N v0 0 r5
set_option maxRecDepth 20000 in
set_option maxHeartbeats 2000000 in
theorem s_Ed_edit {l : Launch} (hlt : l.stackTraces = false) {D : va_G} {dA : Nat → ClassId} {B N : Nat} {v0 : Nat} {v1 : Nat} {v2 : Nat} {v3 : Int32} {h h' : z_H} {r : Unit ⊕ String} (hf : f_Ed_edit N v0 v1 v2 v3 h = some (r, h')) : zx_Met l y_Ed_edit prog_5_method_2_code 6 none 11 204 D dA B [.ref v0, .ref v1, .ref v2, .int v3] h (zx_rv r) h' := by
  refine zx_of (by decide) (Nat.le_of_ble_eq_true rfl) (fun p e s m below meth c ls X hno hSt hI hl => ?_)
  have hx := z_hx X
  have hb := z_hb X
  have hl : lv_has ls 6 [(0, .ref v0), (1, .ref v1), (2, .ref v2), (3, .int v3)] := hl
  unfold f_Ed_edit at hf
  obtain ⟨locs, hlo⟩ : ∃ z : List Loc, z = [] := ⟨_, rfl⟩
  rw [← hlo] at hI ⊢
  refine lv_aload_n hx hb d_Ed_edit_0 rfl (lv_at hl 0 rfl) ?_
  refine lv_aload_n hx hb d_Ed_edit_1 rfl (lv_at hl 1 rfl) ?_
  obtain ⟨h1, eh1, hf⟩ := z_bs hf
  refine z_putF X hI (k := 10) (ci := 3) (ty0 := t_Ed) eh1 i_Ed t_Ed_ok n_Ed rfl (by decide) wf_Ed_39 rfl rfl rfl d_Ed_edit_2 (fun H locs hI => ?_)
  refine lv_aload_n hx hb d_Ed_edit_5 rfl (lv_at hl 0 rfl) ?_
  refine lv_aload_n hx hb d_Ed_edit_6 rfl (lv_at hl 2 rfl) ?_
  obtain ⟨h2, eh2, hf⟩ := z_bs hf
  refine z_putF X hI (k := 11) (ci := 3) (ty0 := t_Ed) eh2 i_Ed t_Ed_ok n_Ed rfl (by decide) wf_Ed_43 rfl rfl rfl d_Ed_edit_7 (fun H locs hI => ?_)
  refine lv_aload_n hx hb d_Ed_edit_10 rfl (lv_at hl 0 rfl) ?_
  refine lv_iload_n hx hb d_Ed_edit_11 rfl (lv_at hl 3 rfl) ?_
  obtain ⟨h3, eh3, hf⟩ := z_bs hf
  refine z_putF X hI (k := 12) (ci := 3) (ty0 := t_Ed) eh3 i_Ed t_Ed_ok n_Ed rfl (by decide) wf_Ed_47 rfl rfl rfl d_Ed_edit_12 (fun H locs hI => ?_)
  refine lv_aload_n hx hb d_Ed_edit_15 rfl (lv_at hl 0 rfl) ?_
  obtain ⟨u4, eu4, hf⟩ := z_bs hf
  obtain ⟨r5, er5, hf⟩ := z_bs hf
  refine z_callV (As := []) (rest := []) (r := none) (h' := r5) X hI eu4 (s_Ed_begin er5) rfl rfl wm_Ed_51 yi_Ed_begin rfl hl.1 rfl (Nat.le_of_ble_eq_true rfl) (by decide) (by decide) d_Ed_edit_16 (fun H locs hI => ?_)
  refine W.eq (g2 := F0 m 19 ls []) rfl ?_
  refine lv_iconst (v := 0) hx hb d_Ed_edit_19 (by decide) ?_
  refine lv_istore (lv' := [(4, .int 0), (0, .ref v0), (1, .ref v1), (2, .ref v2), (3, .int v3)]) hx hb d_Ed_edit_20 hl (by decide) rfl (fun ls hl => ?_)
  exact s_Ed_edit_22 X hlt hno hSt  N v0 0 r5 _ _ _ hI (lv_sub hl [1, 0] rfl) hf
def f_SF_script (N : Nat) (v0 : Nat) (v1 : Int64) (h : z_H) : Option ((Int32 ⊕ String) × z_H) :=
  z_b (f_SF_isText N v1 1 h) fun r1 =>
  if (r1.1) = 0 then
  (some (.inr xE1, r1.2))
  else
  (z_b (gR r1.2 v0 11 0) fun x3 =>
  z_b (f_SF_textLength N v1 r1.2) fun r4 =>
  z_b (gO r4.2 x3 10) fun u5 =>
  z_b (f_Row_hasRoom N x3 (r4.1) r4.2) fun r6 =>
  if (r6.1) = 0 then
  (some (.inr xE2, r6.2))
  else
  (z_b (gR r6.2 v0 11 0) fun x8 =>
  z_b (f_SF_addText N x8 v1 r6.2) fun r9 =>
  z_b (gR r9 v0 11 0) fun x10 =>
  z_b (gI r9 x10 10 1) fun x11 =>
  some (.inl x11, r9)))
set_option maxRecDepth 20000 in
set_option maxHeartbeats 2000000 in
theorem s_SF_script {l : Launch} (hlt : l.stackTraces = false) {D : va_G} {dA : Nat → ClassId} {B N : Nat} {v0 : Nat} {v1 : Int64} {h h' : z_H} {r : Int32 ⊕ String} (hf : f_SF_script N v0 v1 h = some (r, h')) : zx_Met l y_SF_script prog_1_method_2_code 3 (some .int) 6 96 D dA B [.ref v0, .long v1] h (zx_ri r) h' := by
  refine zx_of (by decide) (Nat.le_of_ble_eq_true rfl) (fun p e s m below meth c ls X hno hSt hI hl => ?_)
  have hx := z_hx X
  have hb := z_hb X
  have hl : lv_has ls 3 [(0, .ref v0), (1, .long v1)] := hl
  unfold f_SF_script at hf
  obtain ⟨locs, hlo⟩ : ∃ z : List Loc, z = [] := ⟨_, rfl⟩
  rw [← hlo] at hI ⊢
  refine lv_lload_n hx hb d_SF_script_0 rfl (lv_at hl 1 rfl) ?_
  refine lv_iconst (v := 1) hx hb d_SF_script_1 (by decide) ?_
  obtain ⟨r1, er1, hf⟩ := z_bs hf
  refine z_callS (As := [.long v1, .int 1]) (rest := []) (r := (some (.int r1.1))) (h' := r1.2) X hI (s_SF_isText er1) rfl wm_SF_57 yi_SF_isText rfl hl.1 rfl (Nat.le_of_ble_eq_true rfl) (by decide) (by decide) d_SF_script_2 (fun H locs hI => ?_)
  refine W.eq (g2 := F0 m 5 ls [.int (r1.1)]) rfl ?_
  refine lv_if_ne (tgt := 16) hx hb d_SF_script_5 (by decide) (fun c2 => ?_) (fun c2 => ?_)
  · rw [if_neg c2] at hf
    refine lv_aload_n hx hb d_SF_script_16 rfl (lv_at hl 0 rfl) ?_
    obtain ⟨x3, ex3, hf⟩ := z_bs hf
    refine z_getF X hI (k := 0) (ci := 11) (gR_s ex3) i_SF rfl (by decide) wf_SF_14 d_SF_script_17 ?_
    refine lv_lload_n hx hb d_SF_script_20 rfl (lv_at hl 1 rfl) ?_
    obtain ⟨r4, er4, hf⟩ := z_bs hf
    refine z_callS (As := [.long v1]) (rest := [.ref x3]) (r := (some (.int r4.1))) (h' := r4.2) X hI (s_SF_textLength er4) rfl wm_SF_64 yi_SF_textLength rfl hl.1 rfl (Nat.le_of_ble_eq_true rfl) (by decide) (by decide) d_SF_script_21 (fun H locs hI => ?_)
    refine W.eq (g2 := F0 m 24 ls [.int (r4.1), .ref x3]) rfl ?_
    obtain ⟨u5, eu5, hf⟩ := z_bs hf
    obtain ⟨r6, er6, hf⟩ := z_bs hf
    refine z_callV (As := [.int (r4.1)]) (rest := []) (r := (some (.int r6.1))) (h' := r6.2) X hI eu5 (s_Row_hasRoom er6) rfl rfl wm_SF_68 yi_Row_hasRoom rfl hl.1 rfl (Nat.le_of_ble_eq_true rfl) (by decide) (by decide) d_SF_script_24 (fun H locs hI => ?_)
    refine W.eq (g2 := F0 m 27 ls [.int (r6.1)]) rfl ?_
    refine lv_if_ne (tgt := 38) hx hb d_SF_script_27 (by decide) (fun c7 => ?_) (fun c7 => ?_)
    · rw [if_neg c7] at hf
      refine lv_aload_n hx hb d_SF_script_38 rfl (lv_at hl 0 rfl) ?_
      obtain ⟨x8, ex8, hf⟩ := z_bs hf
      refine z_getF X hI (k := 0) (ci := 11) (gR_s ex8) i_SF rfl (by decide) wf_SF_14 d_SF_script_39 ?_
      refine lv_lload_n hx hb d_SF_script_42 rfl (lv_at hl 1 rfl) ?_
      obtain ⟨r9, er9, hf⟩ := z_bs hf
      refine z_callS (As := [.ref x8, .long v1]) (rest := []) (r := none) (h' := r9) X hI (s_SF_addText er9) rfl wm_SF_75 yi_SF_addText rfl hl.1 rfl (Nat.le_of_ble_eq_true rfl) (by decide) (by decide) d_SF_script_43 (fun H locs hI => ?_)
      refine W.eq (g2 := F0 m 46 ls []) rfl ?_
      refine lv_aload_n hx hb d_SF_script_46 rfl (lv_at hl 0 rfl) ?_
      obtain ⟨x10, ex10, hf⟩ := z_bs hf
      refine z_getF X hI (k := 0) (ci := 11) (gR_s ex10) i_SF rfl (by decide) wf_SF_14 d_SF_script_47 ?_
      obtain ⟨x11, ex11, hf⟩ := z_bs hf
      refine z_getF X hI (k := 1) (ci := 10) (gI_s ex11) i_Row rfl (by decide) wf_SF_79 d_SF_script_50 ?_
      cases hf
      exact zx_ret (z_iret X hI d_SF_script_53)
    · rw [if_pos c7] at hf
      cases hf
      exact zx_throw X hlt hno hSt hI xf2 wl_SF_72 wi_x2 at_SF_74 hl.1 d_SF_script_30 d_SF_script_33 d_SF_script_34 d_SF_script_37 ⟨by decide, Nat.le_of_ble_eq_true rfl, by decide, by decide⟩
  · rw [if_pos c2] at hf
    cases hf
    exact zx_throw X hlt hno hSt hI xf1 wl_SF_61 wi_x1 at_SF_63 hl.1 d_SF_script_8 d_SF_script_11 d_SF_script_12 d_SF_script_15 ⟨by decide, Nat.le_of_ble_eq_true rfl, by decide, by decide⟩
def f_SF_clear (N : Nat) (v0 : Nat) (v1 : Int32) (h : z_H) : Option ((Int32 ⊕ String) × z_H) :=
  if v1 = 0 then
  (z_b (gR h v0 11 0) fun x5 =>
  z_b (gI h x5 10 1) fun x6 =>
  z_b (gR h v0 11 0) fun x7 =>
  z_b (gO h x7 10) fun u8 =>
  z_b (f_Row_empty N x7 h) fun r9 =>
  some (.inl x6, r9))
  else
  (if v1 = 1 then
  (z_b (gI h v0 11 5) fun x3 =>
  z_b (sF h v0 11 5 (.int 0)) fun h4 =>
  some (.inl x3, h4))
  else
  (some (.inr xE1, h)))
set_option maxRecDepth 20000 in
set_option maxHeartbeats 2000000 in
theorem s_SF_clear {l : Launch} (hlt : l.stackTraces = false) {D : va_G} {dA : Nat → ClassId} {B N : Nat} {v0 : Nat} {v1 : Int32} {h h' : z_H} {r : Int32 ⊕ String} (hf : f_SF_clear N v0 v1 h = some (r, h')) : zx_Met l y_SF_clear prog_1_method_3_code 3 (some .int) 6 96 D dA B [.ref v0, .int v1] h (zx_ri r) h' := by
  refine zx_of (by decide) (Nat.le_of_ble_eq_true rfl) (fun p e s m below meth c ls X hno hSt hI hl => ?_)
  have hx := z_hx X
  have hb := z_hb X
  have hl : lv_has ls 3 [(0, .ref v0), (1, .int v1)] := hl
  unfold f_SF_clear at hf
  obtain ⟨locs, hlo⟩ : ∃ z : List Loc, z = [] := ⟨_, rfl⟩
  rw [← hlo] at hI ⊢
  refine lv_iload_n hx hb d_SF_clear_0 rfl (lv_at hl 1 rfl) ?_
  refine lv_if_ne (tgt := 21) hx hb d_SF_clear_1 (by decide) (fun c1 => ?_) (fun c1 => ?_)
  · rw [if_neg c1] at hf
    refine lv_iload_n hx hb d_SF_clear_21 rfl (lv_at hl 1 rfl) ?_
    refine lv_iconst (v := 1) hx hb d_SF_clear_22 (by decide) ?_
    refine lv_icmp_ne (tgt := 38) hx hb d_SF_clear_23 (by decide) (fun c2 => ?_) (fun c2 => ?_)
    · rw [if_neg c2] at hf
      cases hf
      exact zx_throw X hlt hno hSt hI xf1 wl_SF_61 wi_x1 at_SF_63 hl.1 d_SF_clear_38 d_SF_clear_41 d_SF_clear_42 d_SF_clear_45 ⟨by decide, Nat.le_of_ble_eq_true rfl, by decide, by decide⟩
    · rw [if_pos c2] at hf
      refine lv_aload_n hx hb d_SF_clear_26 rfl (lv_at hl 0 rfl) ?_
      obtain ⟨x3, ex3, hf⟩ := z_bs hf
      refine z_getF X hI (k := 5) (ci := 11) (gI_s ex3) i_SF rfl (by decide) wf_SF_85 d_SF_clear_27 ?_
      refine lv_istore_n (lv' := [(2, .int x3), (0, .ref v0), (1, .int v1)]) hx hb d_SF_clear_30 rfl hl (by decide) rfl (fun ls hl => ?_)
      refine lv_aload_n hx hb d_SF_clear_31 rfl (lv_at hl 1 rfl) ?_
      refine lv_iconst (v := 0) hx hb d_SF_clear_32 (by decide) ?_
      obtain ⟨h4, eh4, hf⟩ := z_bs hf
      refine z_putF X hI (k := 5) (ci := 11) (ty0 := t_SF) eh4 i_SF t_SF_ok n_SF rfl (by decide) wf_SF_85 rfl rfl rfl d_SF_clear_33 (fun H locs hI => ?_)
      refine lv_iload_n hx hb d_SF_clear_36 rfl (lv_at hl 0 rfl) ?_
      cases hf
      exact zx_ret (z_iret X hI d_SF_clear_37)
  · rw [if_pos c1] at hf
    refine lv_aload_n hx hb d_SF_clear_4 rfl (lv_at hl 0 rfl) ?_
    obtain ⟨x5, ex5, hf⟩ := z_bs hf
    refine z_getF X hI (k := 0) (ci := 11) (gR_s ex5) i_SF rfl (by decide) wf_SF_14 d_SF_clear_5 ?_
    obtain ⟨x6, ex6, hf⟩ := z_bs hf
    refine z_getF X hI (k := 1) (ci := 10) (gI_s ex6) i_Row rfl (by decide) wf_SF_79 d_SF_clear_8 ?_
    refine lv_istore_n (lv' := [(2, .int x6), (0, .ref v0), (1, .int v1)]) hx hb d_SF_clear_11 rfl hl (by decide) rfl (fun ls hl => ?_)
    refine lv_aload_n hx hb d_SF_clear_12 rfl (lv_at hl 1 rfl) ?_
    obtain ⟨x7, ex7, hf⟩ := z_bs hf
    refine z_getF X hI (k := 0) (ci := 11) (gR_s ex7) i_SF rfl (by decide) wf_SF_14 d_SF_clear_13 ?_
    obtain ⟨u8, eu8, hf⟩ := z_bs hf
    obtain ⟨r9, er9, hf⟩ := z_bs hf
    refine z_callV (As := []) (rest := []) (r := none) (h' := r9) X hI eu8 (s_Row_empty er9) rfl rfl wm_SF_82 yi_Row_empty rfl hl.1 rfl (Nat.le_of_ble_eq_true rfl) (by decide) (by decide) d_SF_clear_16 (fun H locs hI => ?_)
    refine W.eq (g2 := F0 m 19 ls []) rfl ?_
    refine lv_iload_n hx hb d_SF_clear_19 rfl (lv_at hl 0 rfl) ?_
    cases hf
    exact zx_ret (z_iret X hI d_SF_clear_20)
def f_SF_parse (N : Nat) (v0 : Nat) (h : z_H) : Option ((Int32 ⊕ String) × z_H) :=
  z_b (gR h v0 11 2) fun x1 =>
  z_b (gR h v0 11 0) fun x2 =>
  z_b (gR h v0 11 7) fun x3 =>
  z_b (gO h x1 6) fun u4 =>
  z_b (f_Pa_read N x1 x2 x3 h) fun r5 =>
  if (r5.1) = 0 then
  (z_b (gR r5.2 v0 11 2) fun x15 =>
  z_b (gO r5.2 x15 6) fun u16 =>
  z_b (f_Pa_refusedAt N x15 r5.2) fun r17 =>
  z_b (sF r17.2 v0 11 9 (.int (r17.1))) fun h18 =>
  some (.inr xE1, h18))
  else
  (z_b (sF r5.2 v0 11 9 (.int (-2))) fun h7 =>
  z_b (gR h7 v0 11 6) fun x8 =>
  z_b (gR h7 v0 11 7) fun x9 =>
  z_b (sF h7 v0 11 6 (.ref x9)) fun h10 =>
  z_b (sF h10 v0 11 7 (.ref x8)) fun h11 =>
  z_b (sF h11 v0 11 8 (.int 1)) fun h12 =>
  z_b (gR h12 v0 11 6) fun x13 =>
  z_b (gI h12 x13 9 3) fun x14 =>
  some (.inl x14, h12))
set_option maxRecDepth 20000 in
set_option maxHeartbeats 2000000 in
theorem s_SF_parse {l : Launch} (hlt : l.stackTraces = false) {D : va_G} {dA : Nat → ClassId} {B N : Nat} {v0 : Nat} {h h' : z_H} {r : Int32 ⊕ String} (hf : f_SF_parse N v0 h = some (r, h')) : zx_Met l y_SF_parse prog_1_method_4_code 2 (some .int) 7 162 D dA B [.ref v0] h (zx_ri r) h' := by
  refine zx_of (by decide) (Nat.le_of_ble_eq_true rfl) (fun p e s m below meth c ls X hno hSt hI hl => ?_)
  have hx := z_hx X
  have hb := z_hb X
  have hl : lv_has ls 2 [(0, .ref v0)] := hl
  unfold f_SF_parse at hf
  obtain ⟨locs, hlo⟩ : ∃ z : List Loc, z = [] := ⟨_, rfl⟩
  rw [← hlo] at hI ⊢
  refine lv_aload_n hx hb d_SF_parse_0 rfl (lv_at hl 0 rfl) ?_
  obtain ⟨x1, ex1, hf⟩ := z_bs hf
  refine z_getF X hI (k := 2) (ci := 11) (gR_s ex1) i_SF rfl (by decide) wf_SF_25 d_SF_parse_1 ?_
  refine lv_aload_n hx hb d_SF_parse_4 rfl (lv_at hl 0 rfl) ?_
  obtain ⟨x2, ex2, hf⟩ := z_bs hf
  refine z_getF X hI (k := 0) (ci := 11) (gR_s ex2) i_SF rfl (by decide) wf_SF_14 d_SF_parse_5 ?_
  refine lv_aload_n hx hb d_SF_parse_8 rfl (lv_at hl 0 rfl) ?_
  obtain ⟨x3, ex3, hf⟩ := z_bs hf
  refine z_getF X hI (k := 7) (ci := 11) (gR_s ex3) i_SF rfl (by decide) wf_SF_50 d_SF_parse_9 ?_
  obtain ⟨u4, eu4, hf⟩ := z_bs hf
  obtain ⟨r5, er5, hf⟩ := z_bs hf
  refine z_callV (As := [.ref x2, .ref x3]) (rest := []) (r := (some (.int r5.1))) (h' := r5.2) X hI eu4 (s_Pa_read er5) rfl rfl wm_SF_88 yi_Pa_read rfl hl.1 rfl (Nat.le_of_ble_eq_true rfl) (by decide) (by decide) d_SF_parse_12 (fun H locs hI => ?_)
  refine W.eq (g2 := F0 m 15 ls [.int (r5.1)]) rfl ?_
  refine lv_if_ne (tgt := 37) hx hb d_SF_parse_15 (by decide) (fun c6 => ?_) (fun c6 => ?_)
  · rw [if_neg c6] at hf
    refine lv_aload_n hx hb d_SF_parse_37 rfl (lv_at hl 0 rfl) ?_
    refine lv_bipush (v := (-2)) hx hb d_SF_parse_38 (by decide) ?_
    obtain ⟨h7, eh7, hf⟩ := z_bs hf
    refine z_putF X hI (k := 9) (ci := 11) (ty0 := t_SF) eh7 i_SF t_SF_ok n_SF rfl (by decide) wf_SF_53 rfl rfl rfl d_SF_parse_40 (fun H locs hI => ?_)
    refine lv_aload_n hx hb d_SF_parse_43 rfl (lv_at hl 0 rfl) ?_
    obtain ⟨x8, ex8, hf⟩ := z_bs hf
    refine z_getF X hI (k := 6) (ci := 11) (gR_s ex8) i_SF rfl (by decide) wf_SF_46 d_SF_parse_44 ?_
    refine lv_astore_n (lv' := [(1, .ref x8), (0, .ref v0)]) hx hb d_SF_parse_47 rfl hl (by decide) rfl (fun ls hl => ?_)
    refine lv_aload_n hx hb d_SF_parse_48 rfl (lv_at hl 1 rfl) ?_
    refine lv_aload_n hx hb d_SF_parse_49 rfl (lv_at hl 1 rfl) ?_
    obtain ⟨x9, ex9, hf⟩ := z_bs hf
    refine z_getF X hI (k := 7) (ci := 11) (gR_s ex9) i_SF rfl (by decide) wf_SF_50 d_SF_parse_50 ?_
    obtain ⟨h10, eh10, hf⟩ := z_bs hf
    refine z_putF X hI (k := 6) (ci := 11) (ty0 := t_SF) eh10 i_SF t_SF_ok n_SF rfl (by decide) wf_SF_46 rfl rfl rfl d_SF_parse_53 (fun H locs hI => ?_)
    refine lv_aload_n hx hb d_SF_parse_56 rfl (lv_at hl 1 rfl) ?_
    refine lv_aload_n hx hb d_SF_parse_57 rfl (lv_at hl 0 rfl) ?_
    obtain ⟨h11, eh11, hf⟩ := z_bs hf
    refine z_putF X hI (k := 7) (ci := 11) (ty0 := t_SF) eh11 i_SF t_SF_ok n_SF rfl (by decide) wf_SF_50 rfl rfl rfl d_SF_parse_58 (fun H locs hI => ?_)
    refine lv_aload_n hx hb d_SF_parse_61 rfl (lv_at hl 1 rfl) ?_
    refine lv_iconst (v := 1) hx hb d_SF_parse_62 (by decide) ?_
    obtain ⟨h12, eh12, hf⟩ := z_bs hf
    refine z_putF X hI (k := 8) (ci := 11) (ty0 := t_SF) eh12 i_SF t_SF_ok n_SF rfl (by decide) wf_SF_95 rfl rfl rfl d_SF_parse_63 (fun H locs hI => ?_)
    refine lv_aload_n hx hb d_SF_parse_66 rfl (lv_at hl 1 rfl) ?_
    obtain ⟨x13, ex13, hf⟩ := z_bs hf
    refine z_getF X hI (k := 6) (ci := 11) (gR_s ex13) i_SF rfl (by decide) wf_SF_46 d_SF_parse_67 ?_
    obtain ⟨x14, ex14, hf⟩ := z_bs hf
    refine z_getF X hI (k := 3) (ci := 9) (gI_s ex14) i_Prog rfl (by decide) wf_SF_99 d_SF_parse_70 ?_
    cases hf
    exact zx_ret (z_iret X hI d_SF_parse_73)
  · rw [if_pos c6] at hf
    refine lv_aload_n hx hb d_SF_parse_18 rfl (lv_at hl 0 rfl) ?_
    refine lv_aload_n hx hb d_SF_parse_19 rfl (lv_at hl 0 rfl) ?_
    obtain ⟨x15, ex15, hf⟩ := z_bs hf
    refine z_getF X hI (k := 2) (ci := 11) (gR_s ex15) i_SF rfl (by decide) wf_SF_25 d_SF_parse_20 ?_
    obtain ⟨u16, eu16, hf⟩ := z_bs hf
    obtain ⟨r17, er17, hf⟩ := z_bs hf
    refine z_callV (As := []) (rest := [.ref v0]) (r := (some (.int r17.1))) (h' := r17.2) X hI eu16 (s_Pa_refusedAt er17) rfl rfl wm_SF_92 yi_Pa_refusedAt rfl hl.1 rfl (Nat.le_of_ble_eq_true rfl) (by decide) (by decide) d_SF_parse_23 (fun H locs hI => ?_)
    refine W.eq (g2 := F0 m 26 ls [.int (r17.1), .ref v0]) rfl ?_
    obtain ⟨h18, eh18, hf⟩ := z_bs hf
    refine z_putF X hI (k := 9) (ci := 11) (ty0 := t_SF) eh18 i_SF t_SF_ok n_SF rfl (by decide) wf_SF_53 rfl rfl rfl d_SF_parse_26 (fun H locs hI => ?_)
    cases hf
    exact zx_throw X hlt hno hSt hI xf1 wl_SF_61 wi_x1 at_SF_63 hl.1 d_SF_parse_29 d_SF_parse_32 d_SF_parse_33 d_SF_parse_36 ⟨by decide, Nat.le_of_ble_eq_true rfl, by decide, by decide⟩
def f_SF_line_16 (N : Nat)   (h : z_H) : Option ((Int32 ⊕ String) × z_H) :=
  some (.inr xE1, h)
set_option maxRecDepth 20000 in
set_option maxHeartbeats 2000000 in
theorem s_SF_line_16 (X : z_X p s m args meth c prog_1_method_6_code 6 (some .int) Ts "StreamForge" D dA B) {N : Nat} {r : Int32 ⊕ String} (hlt : l.stackTraces = false) (hno : ∀ x ∈ c.exceptionTable.toList, False) (hSt : z_St B s s.heap) {h' : z_H}   : ∀  (h : z_H) (H : Heap) (locs : List Loc) (ls : Array Slot), z_I D dA B h s.heap H locs → lv_has ls 6 [] → f_SF_line_16 N   h = some (r, h') → W p l e (zx_rm 6 96) s m args below meth c H locs 0 0 (zx_MQ below D dA B (zx_ri r) h' args s) (F0 m 16 ls []) := by
  have hx := z_hx X
  have hb := z_hb X
  intro  h H locs ls hI hl hf
  unfold f_SF_line_16 at hf
  cases hf
  exact zx_throw X hlt hno hSt hI xf1 wl_SF_61 wi_x1 at_SF_63 hl.1 d_SF_line_16 d_SF_line_19 d_SF_line_20 d_SF_line_23 ⟨by decide, Nat.le_of_ble_eq_true rfl, by decide, by decide⟩
def f_SF_line (N : Nat) (v0 : Nat) (v1 : Int64) (v3 : Int64) (h : z_H) : Option ((Int32 ⊕ String) × z_H) :=
  z_b (f_SF_isText N v1 0 h) fun r1 =>
  if (r1.1) = 0 then
  (f_SF_line_16 N r1.2)
  else
  (z_b (f_SF_isText N v3 0 r1.2) fun r3 =>
  if (r3.1) = 0 then
  (f_SF_line_16 N r3.2)
  else
  (z_b (gI r3.2 v0 11 5) fun x5 =>
  if x5 < 12 then
  (z_b (gR r3.2 v0 11 1) fun x7 =>
  z_b (gI r3.2 v0 11 5) fun x8 =>
  z_b (aR r3.2 x7 4 x8) fun x9 =>
  z_b (gO r3.2 x9 10) fun u10 =>
  z_b (f_Row_empty N x9 r3.2) fun r11 =>
  z_b (f_SF_addText N x9 v1 r11) fun r12 =>
  z_b (f_SF_addText N x9 v3 r12) fun r13 =>
  z_b (gI r13 v0 11 5) fun x14 =>
  z_b (sF r13 v0 11 5 (.int (x14 + 1))) fun h15 =>
  z_b (gI h15 v0 11 5) fun x16 =>
  some (.inl x16, h15))
  else
  (some (.inr xE2, r3.2))))
set_option maxRecDepth 20000 in
set_option maxHeartbeats 2000000 in
theorem s_SF_line {l : Launch} (hlt : l.stackTraces = false) {D : va_G} {dA : Nat → ClassId} {B N : Nat} {v0 : Nat} {v1 : Int64} {v3 : Int64} {h h' : z_H} {r : Int32 ⊕ String} (hf : f_SF_line N v0 v1 v3 h = some (r, h')) : zx_Met l y_SF_line prog_1_method_6_code 6 (some .int) 6 96 D dA B [.ref v0, .long v1, .long v3] h (zx_ri r) h' := by
  refine zx_of (by decide) (Nat.le_of_ble_eq_true rfl) (fun p e s m below meth c ls X hno hSt hI hl => ?_)
  have hx := z_hx X
  have hb := z_hb X
  have hl : lv_has ls 6 [(0, .ref v0), (1, .long v1), (3, .long v3)] := hl
  unfold f_SF_line at hf
  obtain ⟨locs, hlo⟩ : ∃ z : List Loc, z = [] := ⟨_, rfl⟩
  rw [← hlo] at hI ⊢
  refine lv_lload_n hx hb d_SF_line_0 rfl (lv_at hl 1 rfl) ?_
  refine lv_iconst (v := 0) hx hb d_SF_line_1 (by decide) ?_
  obtain ⟨r1, er1, hf⟩ := z_bs hf
  refine z_callS (As := [.long v1, .int 0]) (rest := []) (r := (some (.int r1.1))) (h' := r1.2) X hI (s_SF_isText er1) rfl wm_SF_57 yi_SF_isText rfl hl.1 rfl (Nat.le_of_ble_eq_true rfl) (by decide) (by decide) d_SF_line_2 (fun H locs hI => ?_)
  refine W.eq (g2 := F0 m 5 ls [.int (r1.1)]) rfl ?_
  refine lv_if_eq (tgt := 16) hx hb d_SF_line_5 (by decide) (fun c2 => ?_) (fun c2 => ?_)
  · rw [if_pos c2] at hf
    exact s_SF_line_16 X hlt hno hSt  r1.2 _ _ _ hI (lv_sub hl [] rfl) hf
  · rw [if_neg c2] at hf
    refine lv_lload_n hx hb d_SF_line_8 rfl (lv_at hl 2 rfl) ?_
    refine lv_iconst (v := 0) hx hb d_SF_line_9 (by decide) ?_
    obtain ⟨r3, er3, hf⟩ := z_bs hf
    refine z_callS (As := [.long v3, .int 0]) (rest := []) (r := (some (.int r3.1))) (h' := r3.2) X hI (s_SF_isText er3) rfl wm_SF_57 yi_SF_isText rfl hl.1 rfl (Nat.le_of_ble_eq_true rfl) (by decide) (by decide) d_SF_line_10 (fun H locs hI => ?_)
    refine W.eq (g2 := F0 m 13 ls [.int (r3.1)]) rfl ?_
    refine lv_if_ne (tgt := 24) hx hb d_SF_line_13 (by decide) (fun c4 => ?_) (fun c4 => ?_)
    · rw [if_neg c4] at hf
      refine lv_aload_n hx hb d_SF_line_24 rfl (lv_at hl 0 rfl) ?_
      obtain ⟨x5, ex5, hf⟩ := z_bs hf
      refine z_getF X hI (k := 5) (ci := 11) (gI_s ex5) i_SF rfl (by decide) wf_SF_85 d_SF_line_25 ?_
      refine lv_bipush (v := 12) hx hb d_SF_line_28 (by decide) ?_
      refine lv_icmp_lt (tgt := 41) hx hb d_SF_line_30 (by decide) (fun c6 => ?_) (fun c6 => ?_)
      · rw [if_pos c6] at hf
        refine lv_aload_n hx hb d_SF_line_41 rfl (lv_at hl 0 rfl) ?_
        obtain ⟨x7, ex7, hf⟩ := z_bs hf
        refine z_getF X hI (k := 1) (ci := 11) (gR_s ex7) i_SF rfl (by decide) wf_SF_18 d_SF_line_42 ?_
        refine lv_aload_n hx hb d_SF_line_45 rfl (lv_at hl 0 rfl) ?_
        obtain ⟨x8, ex8, hf⟩ := z_bs hf
        refine z_getF X hI (k := 5) (ci := 11) (gI_s ex8) i_SF rfl (by decide) wf_SF_85 d_SF_line_46 ?_
        obtain ⟨x9, ex9, hf⟩ := z_bs hf
        refine z_aald4 X hI ex9 d_SF_line_49 ?_
        refine lv_astore (lv' := [(5, .ref x9), (0, .ref v0), (1, .long v1), (3, .long v3)]) hx hb d_SF_line_50 hl (by decide) rfl (fun ls hl => ?_)
        refine lv_aload hx hb d_SF_line_52 (lv_at hl 0 rfl) ?_
        obtain ⟨u10, eu10, hf⟩ := z_bs hf
        obtain ⟨r11, er11, hf⟩ := z_bs hf
        refine z_callV (As := []) (rest := []) (r := none) (h' := r11) X hI eu10 (s_Row_empty er11) rfl rfl wm_SF_82 yi_Row_empty rfl hl.1 rfl (Nat.le_of_ble_eq_true rfl) (by decide) (by decide) d_SF_line_54 (fun H locs hI => ?_)
        refine W.eq (g2 := F0 m 57 ls []) rfl ?_
        refine lv_aload hx hb d_SF_line_57 (lv_at hl 0 rfl) ?_
        refine lv_lload_n hx hb d_SF_line_59 rfl (lv_at hl 2 rfl) ?_
        obtain ⟨r12, er12, hf⟩ := z_bs hf
        refine z_callS (As := [.ref x9, .long v1]) (rest := []) (r := none) (h' := r12) X hI (s_SF_addText er12) rfl wm_SF_75 yi_SF_addText rfl hl.1 rfl (Nat.le_of_ble_eq_true rfl) (by decide) (by decide) d_SF_line_60 (fun H locs hI => ?_)
        refine W.eq (g2 := F0 m 63 ls []) rfl ?_
        refine lv_aload hx hb d_SF_line_63 (lv_at hl 0 rfl) ?_
        refine lv_lload_n hx hb d_SF_line_65 rfl (lv_at hl 3 rfl) ?_
        obtain ⟨r13, er13, hf⟩ := z_bs hf
        refine z_callS (As := [.ref x9, .long v3]) (rest := []) (r := none) (h' := r13) X hI (s_SF_addText er13) rfl wm_SF_75 yi_SF_addText rfl hl.1 rfl (Nat.le_of_ble_eq_true rfl) (by decide) (by decide) d_SF_line_66 (fun H locs hI => ?_)
        refine W.eq (g2 := F0 m 69 ls []) rfl ?_
        refine lv_aload_n hx hb d_SF_line_69 rfl (lv_at hl 1 rfl) ?_
        refine lv_dup hx hb d_SF_line_70 rfl ?_
        obtain ⟨x14, ex14, hf⟩ := z_bs hf
        refine z_getF X hI (k := 5) (ci := 11) (gI_s ex14) i_SF rfl (by decide) wf_SF_85 d_SF_line_71 ?_
        refine lv_iconst (v := 1) hx hb d_SF_line_74 (by decide) ?_
        refine lv_iadd hx hb d_SF_line_75 ?_
        obtain ⟨h15, eh15, hf⟩ := z_bs hf
        refine z_putF X hI (k := 5) (ci := 11) (ty0 := t_SF) eh15 i_SF t_SF_ok n_SF rfl (by decide) wf_SF_85 rfl rfl rfl d_SF_line_76 (fun H locs hI => ?_)
        refine lv_aload_n hx hb d_SF_line_79 rfl (lv_at hl 1 rfl) ?_
        obtain ⟨x16, ex16, hf⟩ := z_bs hf
        refine z_getF X hI (k := 5) (ci := 11) (gI_s ex16) i_SF rfl (by decide) wf_SF_85 d_SF_line_80 ?_
        cases hf
        exact zx_ret (z_iret X hI d_SF_line_83)
      · rw [if_neg c6] at hf
        cases hf
        exact zx_throw X hlt hno hSt hI xf2 wl_SF_72 wi_x2 at_SF_74 hl.1 d_SF_line_33 d_SF_line_36 d_SF_line_37 d_SF_line_40 ⟨by decide, Nat.le_of_ble_eq_true rfl, by decide, by decide⟩
    · rw [if_pos c4] at hf
      exact s_SF_line_16 X hlt hno hSt  r3.2 _ _ _ hI (lv_sub hl [] rfl) hf
def f_SF_more_44 (N : Nat)   (h : z_H) : Option ((Int32 ⊕ String) × z_H) :=
  some (.inr xE2, h)
set_option maxRecDepth 20000 in
set_option maxHeartbeats 2000000 in
theorem s_SF_more_44 (X : z_X p s m args meth c prog_1_method_7_code 4 (some .int) Ts "StreamForge" D dA B) {N : Nat} {r : Int32 ⊕ String} (hlt : l.stackTraces = false) (hno : ∀ x ∈ c.exceptionTable.toList, False) (hSt : z_St B s s.heap) {h' : z_H}   : ∀  (h : z_H) (H : Heap) (locs : List Loc) (ls : Array Slot), z_I D dA B h s.heap H locs → lv_has ls 4 [] → f_SF_more_44 N   h = some (r, h') → W p l e (zx_rm 6 96) s m args below meth c H locs 0 0 (zx_MQ below D dA B (zx_ri r) h' args s) (F0 m 44 ls []) := by
  have hx := z_hx X
  have hb := z_hb X
  intro  h H locs ls hI hl hf
  unfold f_SF_more_44 at hf
  cases hf
  exact zx_throw X hlt hno hSt hI xf2 wl_SF_72 wi_x2 at_SF_74 hl.1 d_SF_more_44 d_SF_more_47 d_SF_more_48 d_SF_more_51 ⟨by decide, Nat.le_of_ble_eq_true rfl, by decide, by decide⟩
def f_SF_more (N : Nat) (v0 : Nat) (v1 : Int64) (h : z_H) : Option ((Int32 ⊕ String) × z_H) :=
  z_b (f_SF_isText N v1 0 h) fun r1 =>
  if (r1.1) = 0 then
  (some (.inr xE1, r1.2))
  else
  (z_b (gI r1.2 v0 11 5) fun x3 =>
  if x3 = 0 then
  (f_SF_more_44 N r1.2)
  else
  (z_b (gR r1.2 v0 11 1) fun x5 =>
  z_b (gI r1.2 v0 11 5) fun x6 =>
  z_b (aR r1.2 x5 4 (x6 - 1)) fun x7 =>
  z_b (f_SF_textLength N v1 r1.2) fun r8 =>
  z_b (gO r8.2 x7 10) fun u9 =>
  z_b (f_Row_hasRoom N x7 (r8.1) r8.2) fun r10 =>
  if (r10.1) = 0 then
  (f_SF_more_44 N r10.2)
  else
  (z_b (gR r10.2 v0 11 1) fun x12 =>
  z_b (gI r10.2 v0 11 5) fun x13 =>
  z_b (aR r10.2 x12 4 (x13 - 1)) fun x14 =>
  z_b (f_SF_addText N x14 v1 r10.2) fun r15 =>
  z_b (gI r15 x14 10 1) fun x16 =>
  some (.inl x16, r15))))
set_option maxRecDepth 20000 in
set_option maxHeartbeats 2000000 in
theorem s_SF_more {l : Launch} (hlt : l.stackTraces = false) {D : va_G} {dA : Nat → ClassId} {B N : Nat} {v0 : Nat} {v1 : Int64} {h h' : z_H} {r : Int32 ⊕ String} (hf : f_SF_more N v0 v1 h = some (r, h')) : zx_Met l y_SF_more prog_1_method_7_code 4 (some .int) 6 96 D dA B [.ref v0, .long v1] h (zx_ri r) h' := by
  refine zx_of (by decide) (Nat.le_of_ble_eq_true rfl) (fun p e s m below meth c ls X hno hSt hI hl => ?_)
  have hx := z_hx X
  have hb := z_hb X
  have hl : lv_has ls 4 [(0, .ref v0), (1, .long v1)] := hl
  unfold f_SF_more at hf
  obtain ⟨locs, hlo⟩ : ∃ z : List Loc, z = [] := ⟨_, rfl⟩
  rw [← hlo] at hI ⊢
  refine lv_lload_n hx hb d_SF_more_0 rfl (lv_at hl 1 rfl) ?_
  refine lv_iconst (v := 0) hx hb d_SF_more_1 (by decide) ?_
  obtain ⟨r1, er1, hf⟩ := z_bs hf
  refine z_callS (As := [.long v1, .int 0]) (rest := []) (r := (some (.int r1.1))) (h' := r1.2) X hI (s_SF_isText er1) rfl wm_SF_57 yi_SF_isText rfl hl.1 rfl (Nat.le_of_ble_eq_true rfl) (by decide) (by decide) d_SF_more_2 (fun H locs hI => ?_)
  refine W.eq (g2 := F0 m 5 ls [.int (r1.1)]) rfl ?_
  refine lv_if_ne (tgt := 16) hx hb d_SF_more_5 (by decide) (fun c2 => ?_) (fun c2 => ?_)
  · rw [if_neg c2] at hf
    refine lv_aload_n hx hb d_SF_more_16 rfl (lv_at hl 0 rfl) ?_
    obtain ⟨x3, ex3, hf⟩ := z_bs hf
    refine z_getF X hI (k := 5) (ci := 11) (gI_s ex3) i_SF rfl (by decide) wf_SF_85 d_SF_more_17 ?_
    refine lv_if_eq (tgt := 44) hx hb d_SF_more_20 (by decide) (fun c4 => ?_) (fun c4 => ?_)
    · rw [if_pos c4] at hf
      exact s_SF_more_44 X hlt hno hSt  r1.2 _ _ _ hI (lv_sub hl [] rfl) hf
    · rw [if_neg c4] at hf
      refine lv_aload_n hx hb d_SF_more_23 rfl (lv_at hl 0 rfl) ?_
      obtain ⟨x5, ex5, hf⟩ := z_bs hf
      refine z_getF X hI (k := 1) (ci := 11) (gR_s ex5) i_SF rfl (by decide) wf_SF_18 d_SF_more_24 ?_
      refine lv_aload_n hx hb d_SF_more_27 rfl (lv_at hl 0 rfl) ?_
      obtain ⟨x6, ex6, hf⟩ := z_bs hf
      refine z_getF X hI (k := 5) (ci := 11) (gI_s ex6) i_SF rfl (by decide) wf_SF_85 d_SF_more_28 ?_
      refine lv_iconst (v := 1) hx hb d_SF_more_31 (by decide) ?_
      refine lv_isub hx hb d_SF_more_32 ?_
      obtain ⟨x7, ex7, hf⟩ := z_bs hf
      refine z_aald4 X hI ex7 d_SF_more_33 ?_
      refine lv_lload_n hx hb d_SF_more_34 rfl (lv_at hl 1 rfl) ?_
      obtain ⟨r8, er8, hf⟩ := z_bs hf
      refine z_callS (As := [.long v1]) (rest := [.ref x7]) (r := (some (.int r8.1))) (h' := r8.2) X hI (s_SF_textLength er8) rfl wm_SF_64 yi_SF_textLength rfl hl.1 rfl (Nat.le_of_ble_eq_true rfl) (by decide) (by decide) d_SF_more_35 (fun H locs hI => ?_)
      refine W.eq (g2 := F0 m 38 ls [.int (r8.1), .ref x7]) rfl ?_
      obtain ⟨u9, eu9, hf⟩ := z_bs hf
      obtain ⟨r10, er10, hf⟩ := z_bs hf
      refine z_callV (As := [.int (r8.1)]) (rest := []) (r := (some (.int r10.1))) (h' := r10.2) X hI eu9 (s_Row_hasRoom er10) rfl rfl wm_SF_68 yi_Row_hasRoom rfl hl.1 rfl (Nat.le_of_ble_eq_true rfl) (by decide) (by decide) d_SF_more_38 (fun H locs hI => ?_)
      refine W.eq (g2 := F0 m 41 ls [.int (r10.1)]) rfl ?_
      refine lv_if_ne (tgt := 52) hx hb d_SF_more_41 (by decide) (fun c11 => ?_) (fun c11 => ?_)
      · rw [if_neg c11] at hf
        refine lv_aload_n hx hb d_SF_more_52 rfl (lv_at hl 0 rfl) ?_
        obtain ⟨x12, ex12, hf⟩ := z_bs hf
        refine z_getF X hI (k := 1) (ci := 11) (gR_s ex12) i_SF rfl (by decide) wf_SF_18 d_SF_more_53 ?_
        refine lv_aload_n hx hb d_SF_more_56 rfl (lv_at hl 0 rfl) ?_
        obtain ⟨x13, ex13, hf⟩ := z_bs hf
        refine z_getF X hI (k := 5) (ci := 11) (gI_s ex13) i_SF rfl (by decide) wf_SF_85 d_SF_more_57 ?_
        refine lv_iconst (v := 1) hx hb d_SF_more_60 (by decide) ?_
        refine lv_isub hx hb d_SF_more_61 ?_
        obtain ⟨x14, ex14, hf⟩ := z_bs hf
        refine z_aald4 X hI ex14 d_SF_more_62 ?_
        refine lv_astore_n (lv' := [(3, .ref x14), (0, .ref v0), (1, .long v1)]) hx hb d_SF_more_63 rfl hl (by decide) rfl (fun ls hl => ?_)
        refine lv_aload_n hx hb d_SF_more_64 rfl (lv_at hl 0 rfl) ?_
        refine lv_lload_n hx hb d_SF_more_65 rfl (lv_at hl 2 rfl) ?_
        obtain ⟨r15, er15, hf⟩ := z_bs hf
        refine z_callS (As := [.ref x14, .long v1]) (rest := []) (r := none) (h' := r15) X hI (s_SF_addText er15) rfl wm_SF_75 yi_SF_addText rfl hl.1 rfl (Nat.le_of_ble_eq_true rfl) (by decide) (by decide) d_SF_more_66 (fun H locs hI => ?_)
        refine W.eq (g2 := F0 m 69 ls []) rfl ?_
        refine lv_aload_n hx hb d_SF_more_69 rfl (lv_at hl 0 rfl) ?_
        obtain ⟨x16, ex16, hf⟩ := z_bs hf
        refine z_getF X hI (k := 1) (ci := 10) (gI_s ex16) i_Row rfl (by decide) wf_SF_79 d_SF_more_70 ?_
        cases hf
        exact zx_ret (z_iret X hI d_SF_more_73)
      · rw [if_pos c11] at hf
        exact s_SF_more_44 X hlt hno hSt  r10.2 _ _ _ hI (lv_sub hl [] rfl) hf
  · rw [if_pos c2] at hf
    cases hf
    exact zx_throw X hlt hno hSt hI xf1 wl_SF_61 wi_x1 at_SF_63 hl.1 d_SF_more_8 d_SF_more_11 d_SF_more_12 d_SF_more_15 ⟨by decide, Nat.le_of_ble_eq_true rfl, by decide, by decide⟩
def f_SF_run (N : Nat) (v0 : Nat) (h : z_H) : Option ((Int32 ⊕ String) × z_H) :=
  z_b (gI h v0 11 8) fun x1 =>
  if x1 = 0 then
  (some (.inr xE2, h))
  else
  (z_b (gR h v0 11 3) fun x3 =>
  z_b (gR h v0 11 6) fun x4 =>
  z_b (gR h v0 11 1) fun x5 =>
  z_b (gI h v0 11 5) fun x6 =>
  z_b (gO h x3 3) fun u7 =>
  z_b (f_Ed_edit N x3 x4 x5 x6 h) fun r8 =>
  zx_k r8 fun x9 h10 =>
  z_b (gR h10 v0 11 3) fun x13 =>
  z_b (gR h10 x13 3 0) fun x14 =>
  z_b (gI h10 x14 10 1) fun x15 =>
  some (.inl x15, h10))
set_option maxRecDepth 20000 in
set_option maxHeartbeats 2000000 in
theorem s_SF_run {l : Launch} (hlt : l.stackTraces = false) {D : va_G} {dA : Nat → ClassId} {B N : Nat} {v0 : Nat} {h h' : z_H} {r : Int32 ⊕ String} (hf : f_SF_run N v0 h = some (r, h')) : zx_Met l y_SF_run prog_1_method_8_code 1 (some .int) 12 229 D dA B [.ref v0] h (zx_ri r) h' := by
  refine zx_of (by decide) (Nat.le_of_ble_eq_true rfl) (fun p e s m below meth c ls X hno hSt hI hl => ?_)
  have hx := z_hx X
  have hb := z_hb X
  have hl : lv_has ls 1 [(0, .ref v0)] := hl
  unfold f_SF_run at hf
  obtain ⟨locs, hlo⟩ : ∃ z : List Loc, z = [] := ⟨_, rfl⟩
  rw [← hlo] at hI ⊢
  refine lv_aload_n hx hb d_SF_run_0 rfl (lv_at hl 0 rfl) ?_
  obtain ⟨x1, ex1, hf⟩ := z_bs hf
  refine z_getF X hI (k := 8) (ci := 11) (gI_s ex1) i_SF rfl (by decide) wf_SF_95 d_SF_run_1 ?_
  refine lv_if_ne (tgt := 15) hx hb d_SF_run_4 (by decide) (fun c2 => ?_) (fun c2 => ?_)
  · rw [if_neg c2] at hf
    refine lv_aload_n hx hb d_SF_run_15 rfl (lv_at hl 0 rfl) ?_
    obtain ⟨x3, ex3, hf⟩ := z_bs hf
    refine z_getF X hI (k := 3) (ci := 11) (gR_s ex3) i_SF rfl (by decide) wf_SF_32 d_SF_run_16 ?_
    refine lv_aload_n hx hb d_SF_run_19 rfl (lv_at hl 0 rfl) ?_
    obtain ⟨x4, ex4, hf⟩ := z_bs hf
    refine z_getF X hI (k := 6) (ci := 11) (gR_s ex4) i_SF rfl (by decide) wf_SF_46 d_SF_run_20 ?_
    refine lv_aload_n hx hb d_SF_run_23 rfl (lv_at hl 0 rfl) ?_
    obtain ⟨x5, ex5, hf⟩ := z_bs hf
    refine z_getF X hI (k := 1) (ci := 11) (gR_s ex5) i_SF rfl (by decide) wf_SF_18 d_SF_run_24 ?_
    refine lv_aload_n hx hb d_SF_run_27 rfl (lv_at hl 0 rfl) ?_
    obtain ⟨x6, ex6, hf⟩ := z_bs hf
    refine z_getF X hI (k := 5) (ci := 11) (gI_s ex6) i_SF rfl (by decide) wf_SF_85 d_SF_run_28 ?_
    obtain ⟨u7, eu7, hf⟩ := z_bs hf
    obtain ⟨r8, er8, hf⟩ := z_bs hf
    obtain ⟨q11, h10⟩ := r8
    rcases q11 with x9 | E12
    · have hf := zx_kl hf
      refine zx_callV (r := .inl none) (As := [.ref x4, .ref x5, .int x6]) (rest := []) (h' := h10) X hSt hI eu7 (s_Ed_edit hlt er8) rfl rfl wm_SF_102 yi_Ed_edit rfl hl.1 rfl (Nat.le_of_ble_eq_true rfl) (by decide) (by decide) d_SF_run_31 (fun v er H locs hI => ?_) (fun E er => by cases er)
      cases er
      refine W.eq (g2 := F0 m 34 ls []) rfl ?_
      refine lv_aload_n hx hb d_SF_run_34 rfl (lv_at hl 0 rfl) ?_
      obtain ⟨x13, ex13, hf⟩ := z_bs hf
      refine z_getF X hI (k := 3) (ci := 11) (gR_s ex13) i_SF rfl (by decide) wf_SF_32 d_SF_run_35 ?_
      obtain ⟨x14, ex14, hf⟩ := z_bs hf
      refine z_getF X hI (k := 0) (ci := 3) (gR_s ex14) i_Ed rfl (by decide) wf_SF_106 d_SF_run_38 ?_
      obtain ⟨x15, ex15, hf⟩ := z_bs hf
      refine z_getF X hI (k := 1) (ci := 10) (gI_s ex15) i_Row rfl (by decide) wf_SF_79 d_SF_run_41 ?_
      cases hf
      exact zx_ret (z_iret X hI d_SF_run_44)
    · cases zx_kr hf
      exact zx_callV (r := .inr E12) (As := [.ref x4, .ref x5, .int x6]) (rest := []) X hSt hI eu7 (s_Ed_edit hlt er8) rfl rfl wm_SF_102 yi_Ed_edit rfl hl.1 rfl (Nat.le_of_ble_eq_true rfl) (by decide) (by decide) d_SF_run_31 (fun v er => by cases er) (fun E er H locs q ce hI hce hcv hcl => by cases er; exact zx_out X hno hI hce hcv hcl)
  · rw [if_pos c2] at hf
    cases hf
    exact zx_throw X hlt hno hSt hI xf2 wl_SF_72 wi_x2 at_SF_74 hl.1 d_SF_run_7 d_SF_run_10 d_SF_run_11 d_SF_run_14 ⟨by decide, Nat.le_of_ble_eq_true rfl, by decide, by decide⟩
def f_SF_out (N : Nat) (v0 : Nat) (v1 : Int32) (h : z_H) : Option ((Int32 ⊕ String) × z_H) :=
  z_b (gR h v0 11 3) fun x1 =>
  z_b (gR h x1 3 0) fun x2 =>
  z_b (gO h x2 10) fun u3 =>
  z_b (f_Row_at N x2 v1 h) fun r4 =>
  z_b (some (r4.1)) fun x5 =>
  if x5 = (-1) then
  (some (.inr xE3, r4.2))
  else
  (some (.inl x5, r4.2))
set_option maxRecDepth 20000 in
set_option maxHeartbeats 2000000 in
theorem s_SF_out {l : Launch} (hlt : l.stackTraces = false) {D : va_G} {dA : Nat → ClassId} {B N : Nat} {v0 : Nat} {v1 : Int32} {h h' : z_H} {r : Int32 ⊕ String} (hf : f_SF_out N v0 v1 h = some (r, h')) : zx_Met l y_SF_out prog_1_method_9_code 3 (some .int) 6 96 D dA B [.ref v0, .int v1] h (zx_ri r) h' := by
  refine zx_of (by decide) (Nat.le_of_ble_eq_true rfl) (fun p e s m below meth c ls X hno hSt hI hl => ?_)
  have hx := z_hx X
  have hb := z_hb X
  have hl : lv_has ls 3 [(0, .ref v0), (1, .int v1)] := hl
  unfold f_SF_out at hf
  obtain ⟨locs, hlo⟩ : ∃ z : List Loc, z = [] := ⟨_, rfl⟩
  rw [← hlo] at hI ⊢
  refine lv_aload_n hx hb d_SF_out_0 rfl (lv_at hl 0 rfl) ?_
  obtain ⟨x1, ex1, hf⟩ := z_bs hf
  refine z_getF X hI (k := 3) (ci := 11) (gR_s ex1) i_SF rfl (by decide) wf_SF_32 d_SF_out_1 ?_
  obtain ⟨x2, ex2, hf⟩ := z_bs hf
  refine z_getF X hI (k := 0) (ci := 3) (gR_s ex2) i_Ed rfl (by decide) wf_SF_106 d_SF_out_4 ?_
  refine lv_iload_n hx hb d_SF_out_7 rfl (lv_at hl 1 rfl) ?_
  obtain ⟨u3, eu3, hf⟩ := z_bs hf
  obtain ⟨r4, er4, hf⟩ := z_bs hf
  refine z_callV (As := [.int v1]) (rest := []) (r := (some (.int r4.1))) (h' := r4.2) X hI eu3 (s_Row_at er4) rfl rfl wm_SF_109 yi_Row_at rfl hl.1 rfl (Nat.le_of_ble_eq_true rfl) (by decide) (by decide) d_SF_out_8 (fun H locs hI => ?_)
  refine W.eq (g2 := F0 m 11 ls [.int (r4.1)]) rfl ?_
  obtain ⟨x5, ex5, hf⟩ := z_bs hf
  refine z_topi (Option.some.inj ex5) ?_
  refine lv_istore_n (lv' := [(2, .int x5), (0, .ref v0), (1, .int v1)]) hx hb d_SF_out_11 rfl hl (by decide) rfl (fun ls hl => ?_)
  refine lv_iload_n hx hb d_SF_out_12 rfl (lv_at hl 0 rfl) ?_
  refine lv_iconst (v := (-1)) hx hb d_SF_out_13 (by decide) ?_
  refine lv_icmp_ne (tgt := 25) hx hb d_SF_out_14 (by decide) (fun c6 => ?_) (fun c6 => ?_)
  · rw [if_neg c6] at hf
    refine lv_iload_n hx hb d_SF_out_25 rfl (lv_at hl 0 rfl) ?_
    cases hf
    exact zx_ret (z_iret X hI d_SF_out_26)
  · rw [if_pos c6] at hf
    cases hf
    exact zx_throw X hlt hno hSt hI xf3 wl_SF_113 wi_x3 at_SF_115 hl.1 d_SF_out_17 d_SF_out_20 d_SF_out_21 d_SF_out_24 ⟨by decide, Nat.le_of_ble_eq_true rfl, by decide, by decide⟩
def f_SF_ran_55 (N : Nat)  (v0 : Nat) (v1 : Int32) (h : z_H) : Option ((Int32 ⊕ String) × z_H) :=
  if v1 = 0 then
  (z_b (gR h v0 11 3) fun x2 =>
  z_b (gR h x2 3 0) fun x3 =>
  z_b (gI h x3 10 1) fun x4 =>
  some (.inl x4, h))
  else
  (
  if v1 = 1 then
  (z_b (gR h v0 11 3) fun x6 =>
  z_b (gI h x6 3 3) fun x7 =>
  some (.inl x7, h))
  else
  (
  if v1 = 2 then
  (z_b (gR h v0 11 3) fun x9 =>
  z_b (gI h x9 3 4) fun x10 =>
  some (.inl x10, h))
  else
  (
  if v1 = 3 then
  (z_b (gR h v0 11 3) fun x12 =>
  z_b (gI h x12 3 5) fun x13 =>
  some (.inl x13, h))
  else
  (
  if v1 = 4 then
  (z_b (gR h v0 11 3) fun x15 =>
  z_b (gI h x15 3 6) fun x16 =>
  some (.inl x16, h))
  else
  (
  some (.inr xE1, h))))))
set_option maxRecDepth 20000 in
set_option maxHeartbeats 2000000 in
theorem s_SF_ran_55 (X : z_X p s m args meth c prog_1_method_10_code 2 (some .int) Ts "StreamForge" D dA B) {N : Nat} {r : Int32 ⊕ String} (hlt : l.stackTraces = false) (hno : ∀ x ∈ c.exceptionTable.toList, False) (hSt : z_St B s s.heap) {h' : z_H}   : ∀ (v0 : Nat) (v1 : Int32) (h : z_H) (H : Heap) (locs : List Loc) (ls : Array Slot), z_I D dA B h s.heap H locs → lv_has ls 2 [(0, .ref v0), (1, .int v1)] → f_SF_ran_55 N  v0 v1 h = some (r, h') → W p l e (zx_rm 6 96) s m args below meth c H locs 0 0 (zx_MQ below D dA B (zx_ri r) h' args s) (F0 m 55 ls []) := by
  have hx := z_hx X
  have hb := z_hb X
  intro v0 v1 h H locs ls hI hl hf
  unfold f_SF_ran_55 at hf
  refine lv_iload_n hx hb d_SF_ran_55 rfl (lv_at hl 1 rfl) ?_
  by_cases c1 : v1 = 0
  · rw [if_pos c1] at hf
    refine lv_tableIn (off := 36) (tgt := 92) hx hb d_SF_ran_56 (by rw [c1]; decide) (by rw [c1]; decide) (by rw [c1]; rfl) (by decide) ?_
    refine lv_aload_n hx hb d_SF_ran_92 rfl (lv_at hl 0 rfl) ?_
    obtain ⟨x2, ex2, hf⟩ := z_bs hf
    refine z_getF X hI (k := 3) (ci := 11) (gR_s ex2) i_SF rfl (by decide) wf_SF_32 d_SF_ran_93 ?_
    obtain ⟨x3, ex3, hf⟩ := z_bs hf
    refine z_getF X hI (k := 0) (ci := 3) (gR_s ex3) i_Ed rfl (by decide) wf_SF_106 d_SF_ran_96 ?_
    obtain ⟨x4, ex4, hf⟩ := z_bs hf
    refine z_getF X hI (k := 1) (ci := 10) (gI_s ex4) i_Row rfl (by decide) wf_SF_79 d_SF_ran_99 ?_
    cases hf
    exact zx_ret (z_iret X hI d_SF_ran_102)
  · rw [if_neg c1] at hf
    by_cases c5 : v1 = 1
    · rw [if_pos c5] at hf
      refine lv_tableIn (off := 47) (tgt := 103) hx hb d_SF_ran_56 (by rw [c5]; decide) (by rw [c5]; decide) (by rw [c5]; rfl) (by decide) ?_
      refine lv_aload_n hx hb d_SF_ran_103 rfl (lv_at hl 0 rfl) ?_
      obtain ⟨x6, ex6, hf⟩ := z_bs hf
      refine z_getF X hI (k := 3) (ci := 11) (gR_s ex6) i_SF rfl (by decide) wf_SF_32 d_SF_ran_104 ?_
      obtain ⟨x7, ex7, hf⟩ := z_bs hf
      refine z_getF X hI (k := 3) (ci := 3) (gI_s ex7) i_Ed rfl (by decide) wf_SF_122 d_SF_ran_107 ?_
      cases hf
      exact zx_ret (z_iret X hI d_SF_ran_110)
    · rw [if_neg c5] at hf
      by_cases c8 : v1 = 2
      · rw [if_pos c8] at hf
        refine lv_tableIn (off := 55) (tgt := 111) hx hb d_SF_ran_56 (by rw [c8]; decide) (by rw [c8]; decide) (by rw [c8]; rfl) (by decide) ?_
        refine lv_aload_n hx hb d_SF_ran_111 rfl (lv_at hl 0 rfl) ?_
        obtain ⟨x9, ex9, hf⟩ := z_bs hf
        refine z_getF X hI (k := 3) (ci := 11) (gR_s ex9) i_SF rfl (by decide) wf_SF_32 d_SF_ran_112 ?_
        obtain ⟨x10, ex10, hf⟩ := z_bs hf
        refine z_getF X hI (k := 4) (ci := 3) (gI_s ex10) i_Ed rfl (by decide) wf_SF_125 d_SF_ran_115 ?_
        cases hf
        exact zx_ret (z_iret X hI d_SF_ran_118)
      · rw [if_neg c8] at hf
        by_cases c11 : v1 = 3
        · rw [if_pos c11] at hf
          refine lv_tableIn (off := 63) (tgt := 119) hx hb d_SF_ran_56 (by rw [c11]; decide) (by rw [c11]; decide) (by rw [c11]; rfl) (by decide) ?_
          refine lv_aload_n hx hb d_SF_ran_119 rfl (lv_at hl 0 rfl) ?_
          obtain ⟨x12, ex12, hf⟩ := z_bs hf
          refine z_getF X hI (k := 3) (ci := 11) (gR_s ex12) i_SF rfl (by decide) wf_SF_32 d_SF_ran_120 ?_
          obtain ⟨x13, ex13, hf⟩ := z_bs hf
          refine z_getF X hI (k := 5) (ci := 3) (gI_s ex13) i_Ed rfl (by decide) wf_SF_128 d_SF_ran_123 ?_
          cases hf
          exact zx_ret (z_iret X hI d_SF_ran_126)
        · rw [if_neg c11] at hf
          by_cases c14 : v1 = 4
          · rw [if_pos c14] at hf
            refine lv_tableIn (off := 71) (tgt := 127) hx hb d_SF_ran_56 (by rw [c14]; decide) (by rw [c14]; decide) (by rw [c14]; rfl) (by decide) ?_
            refine lv_aload_n hx hb d_SF_ran_127 rfl (lv_at hl 0 rfl) ?_
            obtain ⟨x15, ex15, hf⟩ := z_bs hf
            refine z_getF X hI (k := 3) (ci := 11) (gR_s ex15) i_SF rfl (by decide) wf_SF_32 d_SF_ran_128 ?_
            obtain ⟨x16, ex16, hf⟩ := z_bs hf
            refine z_getF X hI (k := 6) (ci := 3) (gI_s ex16) i_Ed rfl (by decide) wf_SF_131 d_SF_ran_131 ?_
            cases hf
            exact zx_ret (z_iret X hI d_SF_ran_134)
          · rw [if_neg c14] at hf
            refine z_tabD (ks := [0, 1, 2, 3, 4]) (tgt := 135) hx hb d_SF_ran_56 (by decide) (by decide) (by simp only [List.forall_mem_cons, List.not_mem_nil, false_implies, implies_true, and_true]; exact ⟨z_ne c1 (by decide), z_ne c5 (by decide), z_ne c8 (by decide), z_ne c11 (by decide), z_ne c14 (by decide)⟩) (by decide) ?_
            cases hf
            exact zx_throw X hlt hno hSt hI xf1 wl_SF_61 wi_x1 at_SF_63 hl.1 d_SF_ran_135 d_SF_ran_138 d_SF_ran_139 d_SF_ran_142 ⟨by decide, Nat.le_of_ble_eq_true rfl, by decide, by decide⟩
def f_SF_ran_27 (N : Nat)  (v0 : Nat) (v1 : Int32) (h : z_H) : Option ((Int32 ⊕ String) × z_H) :=
  if v1 < 100 then
  (f_SF_ran_55 N v0 v1 h)
  else
  (if 160 ≤ v1 then
  (f_SF_ran_55 N v0 v1 h)
  else
  (z_b (gR h v0 11 3) fun x3 =>
  z_b (gR h x3 3 2) fun x4 =>
  z_b (gO h x4 10) fun u5 =>
  z_b (f_Row_at N x4 (v1 - 100) h) fun r6 =>
  some (.inl (r6.1), r6.2)))
set_option maxRecDepth 20000 in
set_option maxHeartbeats 2000000 in
theorem s_SF_ran_27 (X : z_X p s m args meth c prog_1_method_10_code 2 (some .int) Ts "StreamForge" D dA B) {N : Nat} {r : Int32 ⊕ String} (hlt : l.stackTraces = false) (hno : ∀ x ∈ c.exceptionTable.toList, False) (hSt : z_St B s s.heap) {h' : z_H}   : ∀ (v0 : Nat) (v1 : Int32) (h : z_H) (H : Heap) (locs : List Loc) (ls : Array Slot), z_I D dA B h s.heap H locs → lv_has ls 2 [(0, .ref v0), (1, .int v1)] → f_SF_ran_27 N  v0 v1 h = some (r, h') → W p l e (zx_rm 6 96) s m args below meth c H locs 0 0 (zx_MQ below D dA B (zx_ri r) h' args s) (F0 m 27 ls []) := by
  have hx := z_hx X
  have hb := z_hb X
  intro v0 v1 h H locs ls hI hl hf
  unfold f_SF_ran_27 at hf
  refine lv_iload_n hx hb d_SF_ran_27 rfl (lv_at hl 1 rfl) ?_
  refine lv_bipush (v := 100) hx hb d_SF_ran_28 (by decide) ?_
  refine lv_icmp_lt (tgt := 55) hx hb d_SF_ran_30 (by decide) (fun c1 => ?_) (fun c1 => ?_)
  · rw [if_pos c1] at hf
    exact s_SF_ran_55 X hlt hno hSt  v0 v1 h _ _ _ hI (lv_sub hl [0, 1] rfl) hf
  · rw [if_neg c1] at hf
    refine lv_iload_n hx hb d_SF_ran_33 rfl (lv_at hl 1 rfl) ?_
    refine lv_sipush (v := 160) hx hb d_SF_ran_34 (by decide) ?_
    refine lv_icmp_ge (tgt := 55) hx hb d_SF_ran_37 (by decide) (fun c2 => ?_) (fun c2 => ?_)
    · rw [if_pos c2] at hf
      exact s_SF_ran_55 X hlt hno hSt  v0 v1 h _ _ _ hI (lv_sub hl [0, 1] rfl) hf
    · rw [if_neg c2] at hf
      refine lv_aload_n hx hb d_SF_ran_40 rfl (lv_at hl 0 rfl) ?_
      obtain ⟨x3, ex3, hf⟩ := z_bs hf
      refine z_getF X hI (k := 3) (ci := 11) (gR_s ex3) i_SF rfl (by decide) wf_SF_32 d_SF_ran_41 ?_
      obtain ⟨x4, ex4, hf⟩ := z_bs hf
      refine z_getF X hI (k := 2) (ci := 3) (gR_s ex4) i_Ed rfl (by decide) wf_SF_119 d_SF_ran_44 ?_
      refine lv_iload_n hx hb d_SF_ran_47 rfl (lv_at hl 1 rfl) ?_
      refine lv_bipush (v := 100) hx hb d_SF_ran_48 (by decide) ?_
      refine lv_isub hx hb d_SF_ran_50 ?_
      obtain ⟨u5, eu5, hf⟩ := z_bs hf
      obtain ⟨r6, er6, hf⟩ := z_bs hf
      refine z_callV (As := [.int (v1 - 100)]) (rest := []) (r := (some (.int r6.1))) (h' := r6.2) X hI eu5 (s_Row_at er6) rfl rfl wm_SF_109 yi_Row_at rfl hl.1 rfl (Nat.le_of_ble_eq_true rfl) (by decide) (by decide) d_SF_ran_51 (fun H locs hI => ?_)
      refine W.eq (g2 := F0 m 54 ls [.int (r6.1)]) rfl ?_
      cases hf
      exact zx_ret (z_iret X hI d_SF_ran_54)
def f_SF_ran (N : Nat) (v0 : Nat) (v1 : Int32) (h : z_H) : Option ((Int32 ⊕ String) × z_H) :=
  if v1 < 10 then
  (f_SF_ran_27 N v0 v1 h)
  else
  (if 70 ≤ v1 then
  (f_SF_ran_27 N v0 v1 h)
  else
  (z_b (gR h v0 11 3) fun x3 =>
  z_b (gR h x3 3 1) fun x4 =>
  z_b (gO h x4 10) fun u5 =>
  z_b (f_Row_at N x4 (v1 - 10) h) fun r6 =>
  some (.inl (r6.1), r6.2)))
set_option maxRecDepth 20000 in
set_option maxHeartbeats 2000000 in
theorem s_SF_ran {l : Launch} (hlt : l.stackTraces = false) {D : va_G} {dA : Nat → ClassId} {B N : Nat} {v0 : Nat} {v1 : Int32} {h h' : z_H} {r : Int32 ⊕ String} (hf : f_SF_ran N v0 v1 h = some (r, h')) : zx_Met l y_SF_ran prog_1_method_10_code 2 (some .int) 6 96 D dA B [.ref v0, .int v1] h (zx_ri r) h' := by
  refine zx_of (by decide) (Nat.le_of_ble_eq_true rfl) (fun p e s m below meth c ls X hno hSt hI hl => ?_)
  have hx := z_hx X
  have hb := z_hb X
  have hl : lv_has ls 2 [(0, .ref v0), (1, .int v1)] := hl
  unfold f_SF_ran at hf
  obtain ⟨locs, hlo⟩ : ∃ z : List Loc, z = [] := ⟨_, rfl⟩
  rw [← hlo] at hI ⊢
  refine lv_iload_n hx hb d_SF_ran_0 rfl (lv_at hl 1 rfl) ?_
  refine lv_bipush (v := 10) hx hb d_SF_ran_1 (by decide) ?_
  refine lv_icmp_lt (tgt := 27) hx hb d_SF_ran_3 (by decide) (fun c1 => ?_) (fun c1 => ?_)
  · rw [if_pos c1] at hf
    exact s_SF_ran_27 X hlt hno hSt  v0 v1 h _ _ _ hI (lv_sub hl [0, 1] rfl) hf
  · rw [if_neg c1] at hf
    refine lv_iload_n hx hb d_SF_ran_6 rfl (lv_at hl 1 rfl) ?_
    refine lv_bipush (v := 70) hx hb d_SF_ran_7 (by decide) ?_
    refine lv_icmp_ge (tgt := 27) hx hb d_SF_ran_9 (by decide) (fun c2 => ?_) (fun c2 => ?_)
    · rw [if_pos c2] at hf
      exact s_SF_ran_27 X hlt hno hSt  v0 v1 h _ _ _ hI (lv_sub hl [0, 1] rfl) hf
    · rw [if_neg c2] at hf
      refine lv_aload_n hx hb d_SF_ran_12 rfl (lv_at hl 0 rfl) ?_
      obtain ⟨x3, ex3, hf⟩ := z_bs hf
      refine z_getF X hI (k := 3) (ci := 11) (gR_s ex3) i_SF rfl (by decide) wf_SF_32 d_SF_ran_13 ?_
      obtain ⟨x4, ex4, hf⟩ := z_bs hf
      refine z_getF X hI (k := 1) (ci := 3) (gR_s ex4) i_Ed rfl (by decide) wf_SF_116 d_SF_ran_16 ?_
      refine lv_iload_n hx hb d_SF_ran_19 rfl (lv_at hl 1 rfl) ?_
      refine lv_bipush (v := 10) hx hb d_SF_ran_20 (by decide) ?_
      refine lv_isub hx hb d_SF_ran_22 ?_
      obtain ⟨u5, eu5, hf⟩ := z_bs hf
      obtain ⟨r6, er6, hf⟩ := z_bs hf
      refine z_callV (As := [.int (v1 - 10)]) (rest := []) (r := (some (.int r6.1))) (h' := r6.2) X hI eu5 (s_Row_at er6) rfl rfl wm_SF_109 yi_Row_at rfl hl.1 rfl (Nat.le_of_ble_eq_true rfl) (by decide) (by decide) d_SF_ran_23 (fun H locs hI => ?_)
      refine W.eq (g2 := F0 m 26 ls [.int (r6.1)]) rfl ?_
      cases hf
      exact zx_ret (z_iret X hI d_SF_ran_26)
def f_SF_match_10 (N : Nat)   (h : z_H) : Option ((Int32 ⊕ String) × z_H) :=
  some (.inr xE1, h)
set_option maxRecDepth 20000 in
set_option maxHeartbeats 2000000 in
theorem s_SF_match_10 (X : z_X p s m args meth c prog_1_method_11_code 5 (some .int) Ts "StreamForge" D dA B) {N : Nat} {r : Int32 ⊕ String} (hlt : l.stackTraces = false) (hno : ∀ x ∈ c.exceptionTable.toList, False) (hSt : z_St B s s.heap) {h' : z_H}   : ∀  (h : z_H) (H : Heap) (locs : List Loc) (ls : Array Slot), z_I D dA B h s.heap H locs → lv_has ls 5 [] → f_SF_match_10 N   h = some (r, h') → W p l e (zx_rm 6 102) s m args below meth c H locs 0 0 (zx_MQ below D dA B (zx_ri r) h' args s) (F0 m 10 ls []) := by
  have hx := z_hx X
  have hb := z_hb X
  intro  h H locs ls hI hl hf
  unfold f_SF_match_10 at hf
  cases hf
  exact zx_throw X hlt hno hSt hI xf1 wl_SF_61 wi_x1 at_SF_63 hl.1 d_SF_match_10 d_SF_match_13 d_SF_match_14 d_SF_match_17 ⟨by decide, Nat.le_of_ble_eq_true rfl, by decide, by decide⟩
def f_SF_match_48 (N : Nat)   (h : z_H) : Option ((Int32 ⊕ String) × z_H) :=
  some (.inr xE3, h)
set_option maxRecDepth 20000 in
set_option maxHeartbeats 2000000 in
theorem s_SF_match_48 (X : z_X p s m args meth c prog_1_method_11_code 5 (some .int) Ts "StreamForge" D dA B) {N : Nat} {r : Int32 ⊕ String} (hlt : l.stackTraces = false) (hno : ∀ x ∈ c.exceptionTable.toList, False) (hSt : z_St B s s.heap) {h' : z_H}   : ∀  (h : z_H) (H : Heap) (locs : List Loc) (ls : Array Slot), z_I D dA B h s.heap H locs → lv_has ls 5 [] → f_SF_match_48 N   h = some (r, h') → W p l e (zx_rm 6 102) s m args below meth c H locs 0 0 (zx_MQ below D dA B (zx_ri r) h' args s) (F0 m 48 ls []) := by
  have hx := z_hx X
  have hb := z_hb X
  intro  h H locs ls hI hl hf
  unfold f_SF_match_48 at hf
  cases hf
  exact zx_throw X hlt hno hSt hI xf3 wl_SF_113 wi_x3 at_SF_115 hl.1 d_SF_match_48 d_SF_match_51 d_SF_match_52 d_SF_match_55 ⟨by decide, Nat.le_of_ble_eq_true rfl, by decide, by decide⟩
def f_SF_match_97 (N : Nat)   (h : z_H) : Option ((Int32 ⊕ String) × z_H) :=
  some (.inr xE3, h)
set_option maxRecDepth 20000 in
set_option maxHeartbeats 2000000 in
theorem s_SF_match_97 (X : z_X p s m args meth c prog_1_method_11_code 5 (some .int) Ts "StreamForge" D dA B) {N : Nat} {r : Int32 ⊕ String} (hlt : l.stackTraces = false) (hno : ∀ x ∈ c.exceptionTable.toList, False) (hSt : z_St B s s.heap) {h' : z_H}   : ∀  (h : z_H) (H : Heap) (locs : List Loc) (ls : Array Slot), z_I D dA B h s.heap H locs → lv_has ls 5 [] → f_SF_match_97 N   h = some (r, h') → W p l e (zx_rm 6 102) s m args below meth c H locs 0 0 (zx_MQ below D dA B (zx_ri r) h' args s) (F0 m 97 ls []) := by
  have hx := z_hx X
  have hb := z_hb X
  intro  h H locs ls hI hl hf
  unfold f_SF_match_97 at hf
  cases hf
  exact zx_throw X hlt hno hSt hI xf3 wl_SF_113 wi_x3 at_SF_115 hl.1 d_SF_match_97 d_SF_match_100 d_SF_match_101 d_SF_match_104 ⟨by decide, Nat.le_of_ble_eq_true rfl, by decide, by decide⟩
def f_SF_match (N : Nat) (v0 : Nat) (v1 : Int32) (v2 : Int32) (v3 : Int32) (h : z_H) : Option ((Int32 ⊕ String) × z_H) :=
  if v3 < 0 then
  (f_SF_match_10 N h)
  else
  (if v3 ≤ 7 then
  (z_b (gI h v0 11 8) fun x3 =>
  if x3 = 0 then
  (some (.inr xE2, h))
  else
  (if v1 < 0 then
  (f_SF_match_48 N h)
  else
  (z_b (gR h v0 11 6) fun x6 =>
  z_b (gI h x6 9 3) fun x7 =>
  if v1 < x7 then
  (z_b (gR h v0 11 6) fun x9 =>
  z_b (gR h x9 9 2) fun x10 =>
  z_b (aR h x10 5 v1) fun x11 =>
  z_b (gI h x11 1 3) fun x12 =>
  if x12 = 115 then
  (if v2 < 0 then
  (f_SF_match_97 N h)
  else
  (z_b (gI h v0 11 5) fun x15 =>
  if v2 < x15 then
  (z_b (gR h v0 11 4) fun x17 =>
  z_b (gR h v0 11 6) fun x18 =>
  z_b (gR h x18 9 1) fun x19 =>
  z_b (gR h x11 1 2) fun x20 =>
  z_b (gR h v0 11 1) fun x21 =>
  z_b (aR h x21 4 v2) fun x22 =>
  z_b (gO h x17 5) fun u23 =>
  z_b (f_Ma_find N x17 x19 x20 x22 0 h) fun r24 =>
  if (r24.1) = 0 then
  (some (.inl (-2), r24.2))
  else
  (z_b (gR r24.2 v0 11 4) fun x26 =>
  z_b (gO r24.2 x26 5) fun u27 =>
  z_b (f_Ma_told N x26 v3 r24.2) fun r28 =>
  some (.inl (r28.1), r28.2)))
  else
  (f_SF_match_97 N h)))
  else
  (some (.inr xE1, h)))
  else
  (f_SF_match_48 N h))))
  else
  (f_SF_match_10 N h))
set_option maxRecDepth 20000 in
set_option maxHeartbeats 2000000 in
theorem s_SF_match {l : Launch} (hlt : l.stackTraces = false) {D : va_G} {dA : Nat → ClassId} {B N : Nat} {v0 : Nat} {v1 : Int32} {v2 : Int32} {v3 : Int32} {h h' : z_H} {r : Int32 ⊕ String} (hf : f_SF_match N v0 v1 v2 v3 h = some (r, h')) : zx_Met l y_SF_match prog_1_method_11_code 5 (some .int) 6 102 D dA B [.ref v0, .int v1, .int v2, .int v3] h (zx_ri r) h' := by
  refine zx_of (by decide) (Nat.le_of_ble_eq_true rfl) (fun p e s m below meth c ls X hno hSt hI hl => ?_)
  have hx := z_hx X
  have hb := z_hb X
  have hl : lv_has ls 5 [(0, .ref v0), (1, .int v1), (2, .int v2), (3, .int v3)] := hl
  unfold f_SF_match at hf
  obtain ⟨locs, hlo⟩ : ∃ z : List Loc, z = [] := ⟨_, rfl⟩
  rw [← hlo] at hI ⊢
  refine lv_iload_n hx hb d_SF_match_0 rfl (lv_at hl 3 rfl) ?_
  refine lv_if_lt (tgt := 10) hx hb d_SF_match_1 (by decide) (fun c1 => ?_) (fun c1 => ?_)
  · rw [if_pos c1] at hf
    exact s_SF_match_10 X hlt hno hSt  h _ _ _ hI (lv_sub hl [] rfl) hf
  · rw [if_neg c1] at hf
    refine lv_iload_n hx hb d_SF_match_4 rfl (lv_at hl 3 rfl) ?_
    refine lv_bipush (v := 7) hx hb d_SF_match_5 (by decide) ?_
    refine lv_icmp_le (tgt := 18) hx hb d_SF_match_7 (by decide) (fun c2 => ?_) (fun c2 => ?_)
    · rw [if_pos c2] at hf
      refine lv_aload_n hx hb d_SF_match_18 rfl (lv_at hl 0 rfl) ?_
      obtain ⟨x3, ex3, hf⟩ := z_bs hf
      refine z_getF X hI (k := 8) (ci := 11) (gI_s ex3) i_SF rfl (by decide) wf_SF_95 d_SF_match_19 ?_
      refine lv_if_ne (tgt := 33) hx hb d_SF_match_22 (by decide) (fun c4 => ?_) (fun c4 => ?_)
      · rw [if_neg c4] at hf
        refine lv_iload_n hx hb d_SF_match_33 rfl (lv_at hl 1 rfl) ?_
        refine lv_if_lt (tgt := 48) hx hb d_SF_match_34 (by decide) (fun c5 => ?_) (fun c5 => ?_)
        · rw [if_pos c5] at hf
          exact s_SF_match_48 X hlt hno hSt  h _ _ _ hI (lv_sub hl [] rfl) hf
        · rw [if_neg c5] at hf
          refine lv_iload_n hx hb d_SF_match_37 rfl (lv_at hl 1 rfl) ?_
          refine lv_aload_n hx hb d_SF_match_38 rfl (lv_at hl 0 rfl) ?_
          obtain ⟨x6, ex6, hf⟩ := z_bs hf
          refine z_getF X hI (k := 6) (ci := 11) (gR_s ex6) i_SF rfl (by decide) wf_SF_46 d_SF_match_39 ?_
          obtain ⟨x7, ex7, hf⟩ := z_bs hf
          refine z_getF X hI (k := 3) (ci := 9) (gI_s ex7) i_Prog rfl (by decide) wf_SF_99 d_SF_match_42 ?_
          refine lv_icmp_lt (tgt := 56) hx hb d_SF_match_45 (by decide) (fun c8 => ?_) (fun c8 => ?_)
          · rw [if_pos c8] at hf
            refine lv_aload_n hx hb d_SF_match_56 rfl (lv_at hl 0 rfl) ?_
            obtain ⟨x9, ex9, hf⟩ := z_bs hf
            refine z_getF X hI (k := 6) (ci := 11) (gR_s ex9) i_SF rfl (by decide) wf_SF_46 d_SF_match_57 ?_
            obtain ⟨x10, ex10, hf⟩ := z_bs hf
            refine z_getF X hI (k := 2) (ci := 9) (gR_s ex10) i_Prog rfl (by decide) wf_SF_134 d_SF_match_60 ?_
            refine lv_iload_n hx hb d_SF_match_63 rfl (lv_at hl 1 rfl) ?_
            obtain ⟨x11, ex11, hf⟩ := z_bs hf
            refine z_aald5 X hI ex11 d_SF_match_64 ?_
            refine lv_astore (lv' := [(4, .ref x11), (0, .ref v0), (1, .int v1), (2, .int v2), (3, .int v3)]) hx hb d_SF_match_65 hl (by decide) rfl (fun ls hl => ?_)
            refine lv_aload hx hb d_SF_match_67 (lv_at hl 0 rfl) ?_
            obtain ⟨x12, ex12, hf⟩ := z_bs hf
            refine z_getF X hI (k := 3) (ci := 1) (gI_s ex12) i_Cmd rfl (by decide) wf_SF_138 d_SF_match_69 ?_
            refine lv_bipush (v := 115) hx hb d_SF_match_72 (by decide) ?_
            refine lv_icmp_eq (tgt := 85) hx hb d_SF_match_74 (by decide) (fun c13 => ?_) (fun c13 => ?_)
            · rw [if_pos c13] at hf
              refine lv_iload_n hx hb d_SF_match_85 rfl (lv_at hl 3 rfl) ?_
              refine lv_if_lt (tgt := 97) hx hb d_SF_match_86 (by decide) (fun c14 => ?_) (fun c14 => ?_)
              · rw [if_pos c14] at hf
                exact s_SF_match_97 X hlt hno hSt  h _ _ _ hI (lv_sub hl [] rfl) hf
              · rw [if_neg c14] at hf
                refine lv_iload_n hx hb d_SF_match_89 rfl (lv_at hl 3 rfl) ?_
                refine lv_aload_n hx hb d_SF_match_90 rfl (lv_at hl 1 rfl) ?_
                obtain ⟨x15, ex15, hf⟩ := z_bs hf
                refine z_getF X hI (k := 5) (ci := 11) (gI_s ex15) i_SF rfl (by decide) wf_SF_85 d_SF_match_91 ?_
                refine lv_icmp_lt (tgt := 105) hx hb d_SF_match_94 (by decide) (fun c16 => ?_) (fun c16 => ?_)
                · rw [if_pos c16] at hf
                  refine lv_aload_n hx hb d_SF_match_105 rfl (lv_at hl 1 rfl) ?_
                  obtain ⟨x17, ex17, hf⟩ := z_bs hf
                  refine z_getF X hI (k := 4) (ci := 11) (gR_s ex17) i_SF rfl (by decide) wf_SF_39 d_SF_match_106 ?_
                  refine lv_aload_n hx hb d_SF_match_109 rfl (lv_at hl 1 rfl) ?_
                  obtain ⟨x18, ex18, hf⟩ := z_bs hf
                  refine z_getF X hI (k := 6) (ci := 11) (gR_s ex18) i_SF rfl (by decide) wf_SF_46 d_SF_match_110 ?_
                  obtain ⟨x19, ex19, hf⟩ := z_bs hf
                  refine z_getF X hI (k := 1) (ci := 9) (gR_s ex19) i_Prog rfl (by decide) wf_SF_143 d_SF_match_113 ?_
                  refine lv_aload hx hb d_SF_match_116 (lv_at hl 0 rfl) ?_
                  obtain ⟨x20, ex20, hf⟩ := z_bs hf
                  refine z_getF X hI (k := 2) (ci := 1) (gR_s ex20) i_Cmd rfl (by decide) wf_SF_147 d_SF_match_118 ?_
                  refine lv_aload_n hx hb d_SF_match_121 rfl (lv_at hl 1 rfl) ?_
                  obtain ⟨x21, ex21, hf⟩ := z_bs hf
                  refine z_getF X hI (k := 1) (ci := 11) (gR_s ex21) i_SF rfl (by decide) wf_SF_18 d_SF_match_122 ?_
                  refine lv_iload_n hx hb d_SF_match_125 rfl (lv_at hl 3 rfl) ?_
                  obtain ⟨x22, ex22, hf⟩ := z_bs hf
                  refine z_aald4 X hI ex22 d_SF_match_126 ?_
                  refine lv_iconst (v := 0) hx hb d_SF_match_127 (by decide) ?_
                  obtain ⟨u23, eu23, hf⟩ := z_bs hf
                  obtain ⟨r24, er24, hf⟩ := z_bs hf
                  refine z_callV (As := [.ref x19, .ref x20, .ref x22, .int 0]) (rest := []) (r := (some (.int r24.1))) (h' := r24.2) X hI eu23 (s_Ma_find er24) rfl rfl wm_SF_151 yi_Ma_find rfl hl.1 rfl (Nat.le_of_ble_eq_true rfl) (by decide) (by decide) d_SF_match_128 (fun H locs hI => ?_)
                  refine W.eq (g2 := F0 m 131 ls [.int (r24.1)]) rfl ?_
                  refine lv_if_ne (tgt := 137) hx hb d_SF_match_131 (by decide) (fun c25 => ?_) (fun c25 => ?_)
                  · rw [if_neg c25] at hf
                    refine lv_aload_n hx hb d_SF_match_137 rfl (lv_at hl 1 rfl) ?_
                    obtain ⟨x26, ex26, hf⟩ := z_bs hf
                    refine z_getF X hI (k := 4) (ci := 11) (gR_s ex26) i_SF rfl (by decide) wf_SF_39 d_SF_match_138 ?_
                    refine lv_iload_n hx hb d_SF_match_141 rfl (lv_at hl 4 rfl) ?_
                    obtain ⟨u27, eu27, hf⟩ := z_bs hf
                    obtain ⟨r28, er28, hf⟩ := z_bs hf
                    refine z_callV (As := [.int v3]) (rest := []) (r := (some (.int r28.1))) (h' := r28.2) X hI eu27 (s_Ma_told er28) rfl rfl wm_SF_155 yi_Ma_told rfl hl.1 rfl (Nat.le_of_ble_eq_true rfl) (by decide) (by decide) d_SF_match_142 (fun H locs hI => ?_)
                    refine W.eq (g2 := F0 m 145 ls [.int (r28.1)]) rfl ?_
                    cases hf
                    exact zx_ret (z_iret X hI d_SF_match_145)
                  · rw [if_pos c25] at hf
                    refine lv_bipush (v := (-2)) hx hb d_SF_match_134 (by decide) ?_
                    cases hf
                    exact zx_ret (z_iret X hI d_SF_match_136)
                · rw [if_neg c16] at hf
                  exact s_SF_match_97 X hlt hno hSt  h _ _ _ hI (lv_sub hl [] rfl) hf
            · rw [if_neg c13] at hf
              cases hf
              exact zx_throw X hlt hno hSt hI xf1 wl_SF_61 wi_x1 at_SF_63 hl.1 d_SF_match_77 d_SF_match_80 d_SF_match_81 d_SF_match_84 ⟨by decide, Nat.le_of_ble_eq_true rfl, by decide, by decide⟩
          · rw [if_neg c8] at hf
            exact s_SF_match_48 X hlt hno hSt  h _ _ _ hI (lv_sub hl [] rfl) hf
      · rw [if_pos c4] at hf
        cases hf
        exact zx_throw X hlt hno hSt hI xf2 wl_SF_72 wi_x2 at_SF_74 hl.1 d_SF_match_25 d_SF_match_28 d_SF_match_29 d_SF_match_32 ⟨by decide, Nat.le_of_ble_eq_true rfl, by decide, by decide⟩
    · rw [if_neg c2] at hf
      exact s_SF_match_10 X hlt hno hSt  h _ _ _ hI (lv_sub hl [] rfl) hf
def f_SF_count (N : Nat) (v0 : Nat) (v1 : Int32) (h : z_H) : Option ((Int32 ⊕ String) × z_H) :=
  if v1 < 10 then
  (if v1 = 0 then
  (z_b (gR h v0 11 0) fun x3 =>
  z_b (gI h x3 10 1) fun x4 =>
  some (.inl x4, h))
  else
  (
  if v1 = 1 then
  (z_b (gI h v0 11 5) fun x6 =>
  some (.inl x6, h))
  else
  (
  if v1 = 2 then
  (z_b (gR h v0 11 6) fun x8 =>
  z_b (gI h x8 9 3) fun x9 =>
  some (.inl x9, h))
  else
  (
  some (.inr xE1, h)))))
  else
  (z_b (some (v1 - 10)) fun x10 =>
  z_b (gI h v0 11 5) fun x11 =>
  if x11 ≤ x10 then
  (some (.inl 0, h))
  else
  (z_b (gR h v0 11 1) fun x13 =>
  z_b (aR h x13 4 x10) fun x14 =>
  z_b (gI h x14 10 1) fun x15 =>
  some (.inl x15, h)))
set_option maxRecDepth 20000 in
set_option maxHeartbeats 2000000 in
theorem s_SF_count {l : Launch} (hlt : l.stackTraces = false) {D : va_G} {dA : Nat → ClassId} {B N : Nat} {v0 : Nat} {v1 : Int32} {h h' : z_H} {r : Int32 ⊕ String} (hf : f_SF_count N v0 v1 h = some (r, h')) : zx_Met l y_SF_count prog_1_method_12_code 3 (some .int) 6 96 D dA B [.ref v0, .int v1] h (zx_ri r) h' := by
  refine zx_of (by decide) (Nat.le_of_ble_eq_true rfl) (fun p e s m below meth c ls X hno hSt hI hl => ?_)
  have hx := z_hx X
  have hb := z_hb X
  have hl : lv_has ls 3 [(0, .ref v0), (1, .int v1)] := hl
  unfold f_SF_count at hf
  obtain ⟨locs, hlo⟩ : ∃ z : List Loc, z = [] := ⟨_, rfl⟩
  rw [← hlo] at hI ⊢
  refine lv_iload_n hx hb d_SF_count_0 rfl (lv_at hl 1 rfl) ?_
  refine lv_bipush (v := 10) hx hb d_SF_count_1 (by decide) ?_
  refine lv_icmp_lt (tgt := 33) hx hb d_SF_count_3 (by decide) (fun c1 => ?_) (fun c1 => ?_)
  · rw [if_pos c1] at hf
    refine lv_iload_n hx hb d_SF_count_33 rfl (lv_at hl 1 rfl) ?_
    by_cases c2 : v1 = 0
    · rw [if_pos c2] at hf
      refine lv_tableIn (off := 26) (tgt := 60) hx hb d_SF_count_34 (by rw [c2]; decide) (by rw [c2]; decide) (by rw [c2]; rfl) (by decide) ?_
      refine lv_aload_n hx hb d_SF_count_60 rfl (lv_at hl 0 rfl) ?_
      obtain ⟨x3, ex3, hf⟩ := z_bs hf
      refine z_getF X hI (k := 0) (ci := 11) (gR_s ex3) i_SF rfl (by decide) wf_SF_14 d_SF_count_61 ?_
      obtain ⟨x4, ex4, hf⟩ := z_bs hf
      refine z_getF X hI (k := 1) (ci := 10) (gI_s ex4) i_Row rfl (by decide) wf_SF_79 d_SF_count_64 ?_
      cases hf
      exact zx_ret (z_iret X hI d_SF_count_67)
    · rw [if_neg c2] at hf
      by_cases c5 : v1 = 1
      · rw [if_pos c5] at hf
        refine lv_tableIn (off := 34) (tgt := 68) hx hb d_SF_count_34 (by rw [c5]; decide) (by rw [c5]; decide) (by rw [c5]; rfl) (by decide) ?_
        refine lv_aload_n hx hb d_SF_count_68 rfl (lv_at hl 0 rfl) ?_
        obtain ⟨x6, ex6, hf⟩ := z_bs hf
        refine z_getF X hI (k := 5) (ci := 11) (gI_s ex6) i_SF rfl (by decide) wf_SF_85 d_SF_count_69 ?_
        cases hf
        exact zx_ret (z_iret X hI d_SF_count_72)
      · rw [if_neg c5] at hf
        by_cases c7 : v1 = 2
        · rw [if_pos c7] at hf
          refine lv_tableIn (off := 39) (tgt := 73) hx hb d_SF_count_34 (by rw [c7]; decide) (by rw [c7]; decide) (by rw [c7]; rfl) (by decide) ?_
          refine lv_aload_n hx hb d_SF_count_73 rfl (lv_at hl 0 rfl) ?_
          obtain ⟨x8, ex8, hf⟩ := z_bs hf
          refine z_getF X hI (k := 6) (ci := 11) (gR_s ex8) i_SF rfl (by decide) wf_SF_46 d_SF_count_74 ?_
          obtain ⟨x9, ex9, hf⟩ := z_bs hf
          refine z_getF X hI (k := 3) (ci := 9) (gI_s ex9) i_Prog rfl (by decide) wf_SF_99 d_SF_count_77 ?_
          cases hf
          exact zx_ret (z_iret X hI d_SF_count_80)
        · rw [if_neg c7] at hf
          refine z_tabD (ks := [0, 1, 2]) (tgt := 81) hx hb d_SF_count_34 (by decide) (by decide) (by simp only [List.forall_mem_cons, List.not_mem_nil, false_implies, implies_true, and_true]; exact ⟨z_ne c2 (by decide), z_ne c5 (by decide), z_ne c7 (by decide)⟩) (by decide) ?_
          cases hf
          exact zx_throw X hlt hno hSt hI xf1 wl_SF_61 wi_x1 at_SF_63 hl.1 d_SF_count_81 d_SF_count_84 d_SF_count_85 d_SF_count_88 ⟨by decide, Nat.le_of_ble_eq_true rfl, by decide, by decide⟩
  · rw [if_neg c1] at hf
    refine lv_iload_n hx hb d_SF_count_6 rfl (lv_at hl 1 rfl) ?_
    refine lv_bipush (v := 10) hx hb d_SF_count_7 (by decide) ?_
    refine lv_isub hx hb d_SF_count_9 ?_
    obtain ⟨x10, ex10, hf⟩ := z_bs hf
    refine z_topi (Option.some.inj ex10) ?_
    refine lv_istore_n (lv' := [(2, .int x10), (0, .ref v0), (1, .int v1)]) hx hb d_SF_count_10 rfl hl (by decide) rfl (fun ls hl => ?_)
    refine lv_iload_n hx hb d_SF_count_11 rfl (lv_at hl 0 rfl) ?_
    refine lv_aload_n hx hb d_SF_count_12 rfl (lv_at hl 1 rfl) ?_
    obtain ⟨x11, ex11, hf⟩ := z_bs hf
    refine z_getF X hI (k := 5) (ci := 11) (gI_s ex11) i_SF rfl (by decide) wf_SF_85 d_SF_count_13 ?_
    refine lv_icmp_ge (tgt := 31) hx hb d_SF_count_16 (by decide) (fun c12 => ?_) (fun c12 => ?_)
    · rw [if_pos c12] at hf
      refine lv_iconst (v := 0) hx hb d_SF_count_31 (by decide) ?_
      cases hf
      exact zx_ret (z_iret X hI d_SF_count_32)
    · rw [if_neg c12] at hf
      refine lv_aload_n hx hb d_SF_count_19 rfl (lv_at hl 1 rfl) ?_
      obtain ⟨x13, ex13, hf⟩ := z_bs hf
      refine z_getF X hI (k := 1) (ci := 11) (gR_s ex13) i_SF rfl (by decide) wf_SF_18 d_SF_count_20 ?_
      refine lv_iload_n hx hb d_SF_count_23 rfl (lv_at hl 0 rfl) ?_
      obtain ⟨x14, ex14, hf⟩ := z_bs hf
      refine z_aald4 X hI ex14 d_SF_count_24 ?_
      obtain ⟨x15, ex15, hf⟩ := z_bs hf
      refine z_getF X hI (k := 1) (ci := 10) (gI_s ex15) i_Row rfl (by decide) wf_SF_79 d_SF_count_25 ?_
      refine lv_goto (tgt := 32) hx hb d_SF_count_28 (by decide) ?_
      cases hf
      exact zx_ret (z_iret X hI d_SF_count_32)
end
