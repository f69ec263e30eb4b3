section
variable {p : Program} {l : Launch} {e : Env} {s : State} {m : MethodId} {args : Array Value} {below : List Frame} {meth : Method} {c : Code} {Ts : List Cond} {own : String} {D : va_G} {dA : Nat → ClassId} {B : Nat}
def f_Mod_cut_56 (N : Nat)  : Nat → Nat → Int32 → Int32 → z_H → Option (Int32 × z_H)
  | 0, _, _, _, _ => none
  | n + 1, v0, v1, v3, h =>
    z_b (gI h v0 12 65) fun x1 =>
    if x1 ≤ v3 then
    (z_b (gI h v0 12 65) fun x3 =>
    z_b (sF h v0 12 65 (.int (x3 - (v1 + 1)))) fun h4 =>
    z_b (gI h4 v0 12 72) fun x5 =>
    z_b (sF h4 v0 12 72 (.int (x5 + 1))) fun h6 =>
    z_b (sF h6 v0 12 74 (.int 0)) fun h7 =>
    some (0, h7))
    else
    (z_b (gR h v0 12 58) fun x8 =>
    z_b (gR h v0 12 58) fun x9 =>
    z_b (aI h x9 0 v3) fun x10 =>
    z_b (uI h x8 0 ((v3 - v1) - 1) x10) fun h11 =>
    z_b (some (v3 + 1)) fun x12 =>
    (f_Mod_cut_56 N  n) v0 v1 x12 h11)
set_option maxRecDepth 20000 in
set_option maxHeartbeats 2000000 in
theorem s_Mod_cut_56 (X : z_X p s m args meth c prog_14_method_63_code 4 (some .int) Ts "StreamForgeModel" D dA B) {N : Nat} {r : Int32} {h' : z_H}   : ∀ n : Nat, ∀ (v0 : Nat) (v1 : Int32) (v3 : Int32) (h : z_H) (H : Heap) (locs : List Loc) (ls : Array Slot), z_I D dA B h s.heap H locs → lv_has ls 4 [(0, .ref v0), (1, .int v1), (3, .int v3)] → f_Mod_cut_56 N  n v0 v1 v3 h = some (r, h') → W p l e (z_rm 4 86) s m args below meth c H locs 0 0 (MQ below (z_Q D dA B (some (.int r)) h') args s 0 0 (fun q => B ≤ q)) (F0 m 56 ls []) := by
  have hx := z_hx X
  have hb := z_hb X
  intro n
  induction n with
  | zero => intro v0 v1 v3 h H locs ls hI hl hf; rw [f_Mod_cut_56] at hf; cases hf
  | succ n ih =>
    intro v0 v1 v3 h H locs ls hI hl hf
    rw [f_Mod_cut_56] at hf
    refine lv_iload_n hx hb d_Mod_cut_56 rfl (lv_at hl 2 rfl) ?_
    refine lv_aload_n hx hb d_Mod_cut_57 rfl (lv_at hl 0 rfl) ?_
    obtain ⟨x1, ex1, hf⟩ := z_bs hf
    refine z_getF X hI (k := 65) (ci := 12) (gI_s ex1) i_Mod rfl (by decide) wf_Mod_319 d_Mod_cut_58 ?_
    refine lv_icmp_ge (tgt := 86) hx hb d_Mod_cut_61 (by decide) (fun c2 => ?_) (fun c2 => ?_)
    · rw [if_pos c2] at hf
      refine lv_aload_n hx hb d_Mod_cut_86 rfl (lv_at hl 0 rfl) ?_
      refine lv_dup hx hb d_Mod_cut_87 rfl ?_
      obtain ⟨x3, ex3, hf⟩ := z_bs hf
      refine z_getF X hI (k := 65) (ci := 12) (gI_s ex3) i_Mod rfl (by decide) wf_Mod_319 d_Mod_cut_88 ?_
      refine lv_iload_n hx hb d_Mod_cut_91 rfl (lv_at hl 1 rfl) ?_
      refine lv_iconst (v := 1) hx hb d_Mod_cut_92 (by decide) ?_
      refine lv_iadd hx hb d_Mod_cut_93 ?_
      refine lv_isub hx hb d_Mod_cut_94 ?_
      obtain ⟨h4, eh4, hf⟩ := z_bs hf
      refine z_putF X hI (k := 65) (ci := 12) (ty0 := t_Mod) eh4 i_Mod t_Mod_ok n_Mod rfl (by decide) wf_Mod_319 rfl rfl rfl d_Mod_cut_95 (fun H locs hI => ?_)
      refine lv_aload_n hx hb d_Mod_cut_98 rfl (lv_at hl 0 rfl) ?_
      refine lv_dup hx hb d_Mod_cut_99 rfl ?_
      obtain ⟨x5, ex5, hf⟩ := z_bs hf
      refine z_getF X hI (k := 72) (ci := 12) (gI_s ex5) i_Mod rfl (by decide) wf_Mod_387 d_Mod_cut_100 ?_
      refine lv_iconst (v := 1) hx hb d_Mod_cut_103 (by decide) ?_
      refine lv_iadd hx hb d_Mod_cut_104 ?_
      obtain ⟨h6, eh6, hf⟩ := z_bs hf
      refine z_putF X hI (k := 72) (ci := 12) (ty0 := t_Mod) eh6 i_Mod t_Mod_ok n_Mod rfl (by decide) wf_Mod_387 rfl rfl rfl d_Mod_cut_105 (fun H locs hI => ?_)
      refine lv_aload_n hx hb d_Mod_cut_108 rfl (lv_at hl 0 rfl) ?_
      refine lv_iconst (v := 0) hx hb d_Mod_cut_109 (by decide) ?_
      obtain ⟨h7, eh7, hf⟩ := z_bs hf
      refine z_putF X hI (k := 74) (ci := 12) (ty0 := t_Mod) eh7 i_Mod t_Mod_ok n_Mod rfl (by decide) wf_Mod_371 rfl rfl rfl d_Mod_cut_110 (fun H locs hI => ?_)
      refine lv_iconst (v := 0) hx hb d_Mod_cut_113 (by decide) ?_
      cases hf
      exact z_iret X hI d_Mod_cut_114
    · rw [if_neg c2] at hf
      refine lv_aload_n hx hb d_Mod_cut_64 rfl (lv_at hl 0 rfl) ?_
      obtain ⟨x8, ex8, hf⟩ := z_bs hf
      refine z_getF X hI (k := 58) (ci := 12) (gR_s ex8) i_Mod rfl (by decide) wf_Mod_130 d_Mod_cut_65 ?_
      refine lv_iload_n hx hb d_Mod_cut_68 rfl (lv_at hl 2 rfl) ?_
      refine lv_iload_n hx hb d_Mod_cut_69 rfl (lv_at hl 1 rfl) ?_
      refine lv_isub hx hb d_Mod_cut_70 ?_
      refine lv_iconst (v := 1) hx hb d_Mod_cut_71 (by decide) ?_
      refine lv_isub hx hb d_Mod_cut_72 ?_
      refine lv_aload_n hx hb d_Mod_cut_73 rfl (lv_at hl 0 rfl) ?_
      obtain ⟨x9, ex9, hf⟩ := z_bs hf
      refine z_getF X hI (k := 58) (ci := 12) (gR_s ex9) i_Mod rfl (by decide) wf_Mod_130 d_Mod_cut_74 ?_
      refine lv_iload_n hx hb d_Mod_cut_77 rfl (lv_at hl 2 rfl) ?_
      obtain ⟨x10, ex10, hf⟩ := z_bs hf
      refine z_iald X hI ex10 d_Mod_cut_78 ?_
      obtain ⟨h11, eh11, hf⟩ := z_bs hf
      refine z_iast X hI eh11 d_Mod_cut_79 (fun H locs hI => ?_)
      obtain ⟨x12, ex12, hf⟩ := z_bs hf
      refine lv_iinc (v := x12) (lv' := [(3, .int x12), (0, .ref v0), (1, .int v1)]) hx hb d_Mod_cut_80 hl (k := 2) rfl (by rw [← Option.some.inj ex12]; rfl) (by decide) rfl (fun ls hl => ?_)
      refine lv_goto (tgt := 56) hx hb d_Mod_cut_83 (by decide) ?_
      exact ih v0 v1 x12 h11 _ _ _ hI (lv_sub hl [1, 2, 0] rfl) hf
def f_Mod_cut_27 (N : Nat)  (v0 : Nat) (v1 : Int32) (h : z_H) : Option (Int32 × z_H) :=
  z_b (gI h v0 12 65) fun x1 =>
  if v1 = x1 then
  (z_b (gO h v0 12) fun u8 =>
  z_b (f_Mod_endCycle N v0 0 h) fun r9 =>
  some (r9.1, r9.2))
  else
  (z_b (gO h v0 12) fun u3 =>
  z_b (f_Mod_tellAppended N v0 h) fun r4 =>
  z_b (some (r4.1)) fun x5 =>
  if x5 = 0 then
  (some (0, r4.2))
  else
  (z_b (some (v1 + 1)) fun x7 =>
  f_Mod_cut_56 N N v0 v1 x7 r4.2))
set_option maxRecDepth 20000 in
set_option maxHeartbeats 2000000 in
theorem s_Mod_cut_27 (X : z_X p s m args meth c prog_14_method_63_code 4 (some .int) Ts "StreamForgeModel" D dA B) {N : Nat} {r : Int32} {h' : z_H}   : ∀ (v0 : Nat) (v1 : Int32) (h : z_H) (H : Heap) (locs : List Loc) (ls : Array Slot), z_I D dA B h s.heap H locs → lv_has ls 4 [(0, .ref v0), (1, .int v1)] → f_Mod_cut_27 N  v0 v1 h = some (r, h') → W p l e (z_rm 4 86) s m args below meth c H locs 0 0 (MQ below (z_Q D dA B (some (.int r)) h') args s 0 0 (fun q => B ≤ q)) (F0 m 27 ls []) := by
  have hx := z_hx X
  have hb := z_hb X
  intro v0 v1 h H locs ls hI hl hf
  unfold f_Mod_cut_27 at hf
  refine lv_iload_n hx hb d_Mod_cut_27 rfl (lv_at hl 1 rfl) ?_
  refine lv_aload_n hx hb d_Mod_cut_28 rfl (lv_at hl 0 rfl) ?_
  obtain ⟨x1, ex1, hf⟩ := z_bs hf
  refine z_getF X hI (k := 65) (ci := 12) (gI_s ex1) i_Mod rfl (by decide) wf_Mod_319 d_Mod_cut_29 ?_
  refine lv_icmp_ne (tgt := 41) hx hb d_Mod_cut_32 (by decide) (fun c2 => ?_) (fun c2 => ?_)
  · rw [if_neg c2] at hf
    refine lv_aload_n hx hb d_Mod_cut_41 rfl (lv_at hl 0 rfl) ?_
    obtain ⟨u3, eu3, hf⟩ := z_bs hf
    obtain ⟨r4, er4, hf⟩ := z_bs hf
    refine z_callV (As := []) (rest := []) (r := (some (.int r4.1))) (h' := r4.2) X hI eu3 (s_Mod_tellAppended er4) rfl rfl wm_Mod_381 yi_Mod_tellAppended rfl hl.1 rfl (Nat.le_of_ble_eq_true rfl) (by decide) (by decide) d_Mod_cut_42 (fun H locs hI => ?_)
    refine W.eq (g2 := F0 m 45 ls [.int (r4.1)]) rfl ?_
    obtain ⟨x5, ex5, hf⟩ := z_bs hf
    refine z_topi (Option.some.inj ex5) ?_
    refine lv_istore_n (lv' := [(2, .int x5), (0, .ref v0), (1, .int v1)]) hx hb d_Mod_cut_45 rfl hl (by decide) rfl (fun ls hl => ?_)
    refine lv_iload_n hx hb d_Mod_cut_46 rfl (lv_at hl 0 rfl) ?_
    refine lv_if_ne (tgt := 52) hx hb d_Mod_cut_47 (by decide) (fun c6 => ?_) (fun c6 => ?_)
    · rw [if_neg c6] at hf
      refine lv_iload_n hx hb d_Mod_cut_52 rfl (lv_at hl 2 rfl) ?_
      refine lv_iconst (v := 1) hx hb d_Mod_cut_53 (by decide) ?_
      refine lv_iadd hx hb d_Mod_cut_54 ?_
      obtain ⟨x7, ex7, hf⟩ := z_bs hf
      refine z_topi (Option.some.inj ex7) ?_
      refine lv_istore_n (lv' := [(3, .int x7), (2, .int x5), (0, .ref v0), (1, .int v1)]) hx hb d_Mod_cut_55 rfl hl (by decide) rfl (fun ls hl => ?_)
      exact s_Mod_cut_56 X  N v0 v1 x7 r4.2 _ _ _ hI (lv_sub hl [2, 3, 0] rfl) hf
    · rw [if_pos c6] at hf
      refine lv_iconst (v := 0) hx hb d_Mod_cut_50 (by decide) ?_
      cases hf
      exact z_iret X hI d_Mod_cut_51
  · rw [if_pos c2] at hf
    refine lv_aload_n hx hb d_Mod_cut_35 rfl (lv_at hl 0 rfl) ?_
    refine lv_iconst (v := 0) hx hb d_Mod_cut_36 (by decide) ?_
    obtain ⟨u8, eu8, hf⟩ := z_bs hf
    obtain ⟨r9, er9, hf⟩ := z_bs hf
    refine z_callV (As := [.int 0]) (rest := []) (r := (some (.int r9.1))) (h' := r9.2) X hI eu8 (s_Mod_endCycle er9) rfl rfl wm_Mod_390 yi_Mod_endCycle rfl hl.1 rfl (Nat.le_of_ble_eq_true rfl) (by decide) (by decide) d_Mod_cut_37 (fun H locs hI => ?_)
    refine W.eq (g2 := F0 m 40 ls [.int (r9.1)]) rfl ?_
    cases hf
    exact z_iret X hI d_Mod_cut_40
def f_Mod_cut_2 (N : Nat)  : Nat → Nat → Int32 → z_H → Option (Int32 × z_H)
  | 0, _, _, _ => none
  | n + 1, v0, v1, h =>
    z_b (gI h v0 12 65) fun x1 =>
    if x1 ≤ v1 then
    (f_Mod_cut_27 N v0 v1 h)
    else
    (z_b (gR h v0 12 58) fun x3 =>
    z_b (aI h x3 0 v1) fun x4 =>
    if x4 = 10 then
    (f_Mod_cut_27 N v0 v1 h)
    else
    (z_b (some (v1 + 1)) fun x6 =>
    (f_Mod_cut_2 N  n) v0 x6 h))
set_option maxRecDepth 20000 in
set_option maxHeartbeats 2000000 in
theorem s_Mod_cut_2 (X : z_X p s m args meth c prog_14_method_63_code 4 (some .int) Ts "StreamForgeModel" D dA B) {N : Nat} {r : Int32} {h' : z_H}   : ∀ n : Nat, ∀ (v0 : Nat) (v1 : Int32) (h : z_H) (H : Heap) (locs : List Loc) (ls : Array Slot), z_I D dA B h s.heap H locs → lv_has ls 4 [(0, .ref v0), (1, .int v1)] → f_Mod_cut_2 N  n v0 v1 h = some (r, h') → W p l e (z_rm 4 86) s m args below meth c H locs 0 0 (MQ below (z_Q D dA B (some (.int r)) h') args s 0 0 (fun q => B ≤ q)) (F0 m 2 ls []) := by
  have hx := z_hx X
  have hb := z_hb X
  intro n
  induction n with
  | zero => intro v0 v1 h H locs ls hI hl hf; rw [f_Mod_cut_2] at hf; cases hf
  | succ n ih =>
    intro v0 v1 h H locs ls hI hl hf
    rw [f_Mod_cut_2] at hf
    refine lv_iload_n hx hb d_Mod_cut_2 rfl (lv_at hl 1 rfl) ?_
    refine lv_aload_n hx hb d_Mod_cut_3 rfl (lv_at hl 0 rfl) ?_
    obtain ⟨x1, ex1, hf⟩ := z_bs hf
    refine z_getF X hI (k := 65) (ci := 12) (gI_s ex1) i_Mod rfl (by decide) wf_Mod_319 d_Mod_cut_4 ?_
    refine lv_icmp_ge (tgt := 27) hx hb d_Mod_cut_7 (by decide) (fun c2 => ?_) (fun c2 => ?_)
    · rw [if_pos c2] at hf
      exact s_Mod_cut_27 X  v0 v1 h _ _ _ hI (lv_sub hl [0, 1] rfl) hf
    · rw [if_neg c2] at hf
      refine lv_aload_n hx hb d_Mod_cut_10 rfl (lv_at hl 0 rfl) ?_
      obtain ⟨x3, ex3, hf⟩ := z_bs hf
      refine z_getF X hI (k := 58) (ci := 12) (gR_s ex3) i_Mod rfl (by decide) wf_Mod_130 d_Mod_cut_11 ?_
      refine lv_iload_n hx hb d_Mod_cut_14 rfl (lv_at hl 1 rfl) ?_
      obtain ⟨x4, ex4, hf⟩ := z_bs hf
      refine z_iald X hI ex4 d_Mod_cut_15 ?_
      refine lv_bipush (v := 10) hx hb d_Mod_cut_16 (by decide) ?_
      refine lv_icmp_eq (tgt := 27) hx hb d_Mod_cut_18 (by decide) (fun c5 => ?_) (fun c5 => ?_)
      · rw [if_pos c5] at hf
        exact s_Mod_cut_27 X  v0 v1 h _ _ _ hI (lv_sub hl [0, 1] rfl) hf
      · rw [if_neg c5] at hf
        obtain ⟨x6, ex6, hf⟩ := z_bs hf
        refine lv_iinc (v := x6) (lv' := [(1, .int x6), (0, .ref v0)]) hx hb d_Mod_cut_21 hl (k := 1) rfl (by rw [← Option.some.inj ex6]; rfl) (by decide) rfl (fun ls hl => ?_)
        refine lv_goto (tgt := 2) hx hb d_Mod_cut_24 (by decide) ?_
        exact ih v0 x6 h _ _ _ hI (lv_sub hl [1, 0] rfl) hf
def f_Mod_cut (N : Nat) (v0 : Nat) (h : z_H) : Option (Int32 × z_H) :=
  f_Mod_cut_2 N N v0 0 h
set_option maxRecDepth 20000 in
set_option maxHeartbeats 2000000 in
theorem s_Mod_cut {l : Launch} {D : va_G} {dA : Nat → ClassId} {B N : Nat} {v0 : Nat} {h h' : z_H} {r : Int32} (hf : f_Mod_cut N v0 h = some (r, h')) : z_Met l y_Mod_cut prog_14_method_63_code 4 (some .int) 4 86 D dA B [.ref v0] h (some (.int r)) h' := by
  refine z_of (by decide) (Nat.le_of_ble_eq_true rfl) (fun p e s m below meth c ls X hI hl => ?_)
  have hx := z_hx X
  have hb := z_hb X
  have hl : lv_has ls 4 [(0, .ref v0)] := hl
  unfold f_Mod_cut at hf
  obtain ⟨locs, hlo⟩ : ∃ z : List Loc, z = [] := ⟨_, rfl⟩
  rw [← hlo] at hI ⊢
  refine lv_iconst (v := 0) hx hb d_Mod_cut_0 (by decide) ?_
  refine lv_istore_n (lv' := [(1, .int 0), (0, .ref v0)]) hx hb d_Mod_cut_1 rfl hl (by decide) rfl (fun ls hl => ?_)
  exact s_Mod_cut_2 X  N v0 0 h _ _ _ hI (lv_sub hl [1, 0] rfl) hf
def f_Mod_perform_409 (N : Nat)  (v0 : Nat) (h : z_H) : Option (Int32 × z_H) :=
  z_b (gI h v0 12 76) fun x1 =>
  if x1 = 0 then
  (z_b (gO h v0 12) fun u3 =>
  z_b (f_Mod_endCycle N v0 0 h) fun r4 =>
  some (r4.1, r4.2))
  else
  (some (0, h))
set_option maxRecDepth 20000 in
set_option maxHeartbeats 2000000 in
theorem s_Mod_perform_409 (X : z_X p s m args meth c prog_14_method_64_code 4 (some .int) Ts "StreamForgeModel" D dA B) {N : Nat} {r : Int32} {h' : z_H}   : ∀ (v0 : Nat) (h : z_H) (H : Heap) (locs : List Loc) (ls : Array Slot), z_I D dA B h s.heap H locs → lv_has ls 4 [(0, .ref v0)] → f_Mod_perform_409 N  v0 h = some (r, h') → W p l e (z_rm 5 116) s m args below meth c H locs 0 0 (MQ below (z_Q D dA B (some (.int r)) h') args s 0 0 (fun q => B ≤ q)) (F0 m 409 ls []) := by
  have hx := z_hx X
  have hb := z_hb X
  intro v0 h H locs ls hI hl hf
  unfold f_Mod_perform_409 at hf
  refine lv_aload_n hx hb d_Mod_perform_409 rfl (lv_at hl 0 rfl) ?_
  obtain ⟨x1, ex1, hf⟩ := z_bs hf
  refine z_getF X hI (k := 76) (ci := 12) (gI_s ex1) i_Mod rfl (by decide) wf_Mod_328 d_Mod_perform_410 ?_
  refine lv_if_eq (tgt := 420) hx hb d_Mod_perform_413 (by decide) (fun c2 => ?_) (fun c2 => ?_)
  · rw [if_pos c2] at hf
    refine lv_aload_n hx hb d_Mod_perform_420 rfl (lv_at hl 0 rfl) ?_
    refine lv_iconst (v := 0) hx hb d_Mod_perform_421 (by decide) ?_
    obtain ⟨u3, eu3, hf⟩ := z_bs hf
    obtain ⟨r4, er4, hf⟩ := z_bs hf
    refine z_callV (As := [.int 0]) (rest := []) (r := (some (.int r4.1))) (h' := r4.2) X hI eu3 (s_Mod_endCycle er4) rfl rfl wm_Mod_390 yi_Mod_endCycle rfl hl.1 rfl (Nat.le_of_ble_eq_true rfl) (by decide) (by decide) d_Mod_perform_422 (fun H locs hI => ?_)
    refine W.eq (g2 := F0 m 425 ls [.int (r4.1)]) rfl ?_
    cases hf
    exact z_iret X hI d_Mod_perform_425
  · rw [if_neg c2] at hf
    refine lv_iconst (v := 0) hx hb d_Mod_perform_416 (by decide) ?_
    refine lv_goto (tgt := 425) hx hb d_Mod_perform_417 (by decide) ?_
    cases hf
    exact z_iret X hI d_Mod_perform_425
def f_Mod_perform_403 (N : Nat)  (v0 : Nat) (v1 : Int32) (h : z_H) : Option (Int32 × z_H) :=
  z_b (gO h v0 12) fun u1 =>
  z_b (f_Mod_tellText N v0 v1 h) fun r2 =>
  f_Mod_perform_409 N v0 r2.2
set_option maxRecDepth 20000 in
set_option maxHeartbeats 2000000 in
theorem s_Mod_perform_403 (X : z_X p s m args meth c prog_14_method_64_code 4 (some .int) Ts "StreamForgeModel" D dA B) {N : Nat} {r : Int32} {h' : z_H}   : ∀ (v0 : Nat) (v1 : Int32) (h : z_H) (H : Heap) (locs : List Loc) (ls : Array Slot), z_I D dA B h s.heap H locs → lv_has ls 4 [(0, .ref v0), (1, .int v1)] → f_Mod_perform_403 N  v0 v1 h = some (r, h') → W p l e (z_rm 5 116) s m args below meth c H locs 0 0 (MQ below (z_Q D dA B (some (.int r)) h') args s 0 0 (fun q => B ≤ q)) (F0 m 403 ls []) := by
  have hx := z_hx X
  have hb := z_hb X
  intro v0 v1 h H locs ls hI hl hf
  unfold f_Mod_perform_403 at hf
  refine lv_aload_n hx hb d_Mod_perform_403 rfl (lv_at hl 0 rfl) ?_
  refine lv_iload_n hx hb d_Mod_perform_404 rfl (lv_at hl 1 rfl) ?_
  obtain ⟨u1, eu1, hf⟩ := z_bs hf
  obtain ⟨r2, er2, hf⟩ := z_bs hf
  refine z_callV (As := [.int v1]) (rest := []) (r := (some (.int r2.1))) (h' := r2.2) X hI eu1 (s_Mod_tellText er2) rfl rfl wm_Mod_403 yi_Mod_tellText rfl hl.1 rfl (Nat.le_of_ble_eq_true rfl) (by decide) (by decide) d_Mod_perform_405 (fun H locs hI => ?_)
  refine W.eq (g2 := F0 m 408 ls [.int (r2.1)]) rfl ?_
  refine lv_pop hx hb d_Mod_perform_408 rfl ?_
  exact s_Mod_perform_409 X  v0 r2.2 _ _ _ hI (lv_sub hl [0] rfl) hf
def f_Mod_perform_490 (N : Nat)  (v0 : Nat) (s0 : Int32) (h : z_H) : Option (Int32 × z_H) :=
  z_b (sF h v0 12 76 (.int 1)) fun h1 =>
  if s0 = 0 then
  (some (0, h1))
  else
  (some (0, h1))
set_option maxRecDepth 20000 in
set_option maxHeartbeats 2000000 in
theorem s_Mod_perform_490 (X : z_X p s m args meth c prog_14_method_64_code 4 (some .int) Ts "StreamForgeModel" D dA B) {N : Nat} {r : Int32} {h' : z_H}   : ∀ (v0 : Nat) (s0 : Int32) (h : z_H) (H : Heap) (locs : List Loc) (ls : Array Slot), z_I D dA B h s.heap H locs → lv_has ls 4 [(0, .ref v0)] → f_Mod_perform_490 N  v0 s0 h = some (r, h') → W p l e (z_rm 5 116) s m args below meth c H locs 0 0 (MQ below (z_Q D dA B (some (.int r)) h') args s 0 0 (fun q => B ≤ q)) (F0 m 490 ls [.int s0]) := by
  have hx := z_hx X
  have hb := z_hb X
  intro v0 s0 h H locs ls hI hl hf
  unfold f_Mod_perform_490 at hf
  refine lv_istore_n (lv' := [(3, .int s0), (0, .ref v0)]) hx hb d_Mod_perform_490 rfl hl (by decide) rfl (fun ls hl => ?_)
  refine lv_aload_n hx hb d_Mod_perform_491 rfl (lv_at hl 1 rfl) ?_
  refine lv_iconst (v := 1) hx hb d_Mod_perform_492 (by decide) ?_
  obtain ⟨h1, eh1, hf⟩ := z_bs hf
  refine z_putF X hI (k := 76) (ci := 12) (ty0 := t_Mod) eh1 i_Mod t_Mod_ok n_Mod rfl (by decide) wf_Mod_328 rfl rfl rfl d_Mod_perform_493 (fun H locs hI => ?_)
  refine lv_iload_n hx hb d_Mod_perform_496 rfl (lv_at hl 0 rfl) ?_
  refine lv_if_eq (tgt := 504) hx hb d_Mod_perform_497 (by decide) (fun c2 => ?_) (fun c2 => ?_)
  · rw [if_pos c2] at hf
    refine lv_iconst (v := 0) hx hb d_Mod_perform_504 (by decide) ?_
    cases hf
    exact z_iret X hI d_Mod_perform_505
  · rw [if_neg c2] at hf
    refine lv_iconst (v := 0) hx hb d_Mod_perform_500 (by decide) ?_
    refine lv_goto (tgt := 505) hx hb d_Mod_perform_501 (by decide) ?_
    cases hf
    exact z_iret X hI d_Mod_perform_505
def f_Mod_perform_520 (N : Nat)  (v2 : Int32) (h : z_H) : Option (Int32 × z_H) :=
  some (v2 + 1, h)
set_option maxRecDepth 20000 in
set_option maxHeartbeats 2000000 in
theorem s_Mod_perform_520 (X : z_X p s m args meth c prog_14_method_64_code 4 (some .int) Ts "StreamForgeModel" D dA B) {N : Nat} {r : Int32} {h' : z_H}   : ∀ (v2 : Int32) (h : z_H) (H : Heap) (locs : List Loc) (ls : Array Slot), z_I D dA B h s.heap H locs → lv_has ls 4 [(2, .int v2)] → f_Mod_perform_520 N  v2 h = some (r, h') → W p l e (z_rm 5 116) s m args below meth c H locs 0 0 (MQ below (z_Q D dA B (some (.int r)) h') args s 0 0 (fun q => B ≤ q)) (F0 m 520 ls []) := by
  have hx := z_hx X
  have hb := z_hb X
  intro v2 h H locs ls hI hl hf
  unfold f_Mod_perform_520 at hf
  refine lv_iload_n hx hb d_Mod_perform_520 rfl (lv_at hl 0 rfl) ?_
  refine lv_iconst (v := 1) hx hb d_Mod_perform_521 (by decide) ?_
  refine lv_iadd hx hb d_Mod_perform_522 ?_
  cases hf
  exact z_iret X hI d_Mod_perform_523
def f_Mod_perform (N : Nat) (v0 : Nat) (v1 : Int32) (v2 : Int32) (h : z_H) : Option (Int32 × z_H) :=
  z_b (gR h v0 12 9) fun x1 =>
  z_b (aI h x1 0 v1) fun x2 =>
  if x2 = 61 then
  (z_b (gO h v0 12) fun u4 =>
  z_b (f_Mod_tellNumber N v0 h) fun r5 =>
  f_Mod_perform_520 N v2 r5.2)
  else
  (
  if x2 = 68 then
  (z_b (gO h v0 12) fun u7 =>
  z_b (f_Mod_cut N v0 h) fun r8 =>
  some (r8.1, r8.2))
  else
  (
  if x2 = 71 then
  (z_b (gR h v0 12 9) fun x10 =>
  z_b (aI h x10 0 v1) fun x11 =>
  z_b (gO h v0 12) fun u12 =>
  z_b (f_Mod_holds N v0 x11 h) fun r13 =>
  f_Mod_perform_520 N v2 r13.2)
  else
  (
  if x2 = 72 then
  (z_b (gR h v0 12 9) fun x15 =>
  z_b (aI h x15 0 v1) fun x16 =>
  z_b (gO h v0 12) fun u17 =>
  z_b (f_Mod_holds N v0 x16 h) fun r18 =>
  f_Mod_perform_520 N v2 r18.2)
  else
  (
  if x2 = 78 then
  (z_b (gO h v0 12) fun u20 =>
  z_b (f_Mod_nextLine N v0 v1 v2 h) fun r21 =>
  some (r21.1, r21.2))
  else
  (
  if x2 = 80 then
  (z_b (gO h v0 12) fun u23 =>
  z_b (f_Mod_tellSpace N v0 1 h) fun r24 =>
  f_Mod_perform_520 N v2 r24.2)
  else
  (
  if x2 = 97 then
  (z_b (gO h v0 12) fun u26 =>
  z_b (f_Mod_append N v0 v1 h) fun r27 =>
  f_Mod_perform_520 N v2 r27.2)
  else
  (
  if x2 = 98 then
  (z_b (gR h v0 12 18) fun x29 =>
  z_b (aI h x29 0 v1) fun x30 =>
  if x30 = (-1) then
  (z_b (gR h v0 12 24) fun x34 =>
  z_b (gI h v0 12 7) fun x35 =>
  z_b (aI h x34 0 x35) fun x36 =>
  some (x36, h))
  else
  (z_b (gR h v0 12 18) fun x32 =>
  z_b (aI h x32 0 v1) fun x33 =>
  some (x33, h)))
  else
  (
  if x2 = 99 then
  (z_b (sF h v0 12 65 (.int 0)) fun h38 =>
  z_b (gR h38 v0 12 12) fun x39 =>
  z_b (aI h38 x39 0 v1) fun x40 =>
  if x40 = 0 then
  (f_Mod_perform_403 N v0 v1 h38)
  else
  (z_b (gR h38 v0 12 21) fun x42 =>
  z_b (aI h38 x42 3 v1) fun x43 =>
  if x43 = 0 then
  (z_b (gI h38 v0 12 75) fun x45 =>
  if x45 = 0 then
  (f_Mod_perform_409 N v0 h38)
  else
  (f_Mod_perform_403 N v0 v1 h38))
  else
  (f_Mod_perform_403 N v0 v1 h38)))
  else
  (
  if x2 = 100 then
  (z_b (gO h v0 12) fun u48 =>
  z_b (f_Mod_endCycle N v0 0 h) fun r49 =>
  some (r49.1, r49.2))
  else
  (
  if x2 = 103 then
  (z_b (gR h v0 12 9) fun x51 =>
  z_b (aI h x51 0 v1) fun x52 =>
  z_b (gO h v0 12) fun u53 =>
  z_b (f_Mod_holds N v0 x52 h) fun r54 =>
  f_Mod_perform_520 N v2 r54.2)
  else
  (
  if x2 = 104 then
  (z_b (gR h v0 12 9) fun x56 =>
  z_b (aI h x56 0 v1) fun x57 =>
  z_b (gO h v0 12) fun u58 =>
  z_b (f_Mod_holds N v0 x57 h) fun r59 =>
  f_Mod_perform_520 N v2 r59.2)
  else
  (
  if x2 = 105 then
  (z_b (gO h v0 12) fun u61 =>
  z_b (f_Mod_tellText N v0 v1 h) fun r62 =>
  f_Mod_perform_520 N v2 r62.2)
  else
  (
  if x2 = 110 then
  (z_b (gO h v0 12) fun u64 =>
  z_b (f_Mod_nextLine N v0 v1 v2 h) fun r65 =>
  some (r65.1, r65.2))
  else
  (
  if x2 = 112 then
  (z_b (gO h v0 12) fun u67 =>
  z_b (f_Mod_tellSpace N v0 0 h) fun r68 =>
  f_Mod_perform_520 N v2 r68.2)
  else
  (
  if x2 = 113 then
  (z_b (gO h v0 12) fun u70 =>
  z_b (f_Mod_tellSpace N v0 0 h) fun r71 =>
  if (r71.1) = 0 then
  (f_Mod_perform_490 N v0 0 r71.2)
  else
  (z_b (gO r71.2 v0 12) fun u73 =>
  z_b (f_Mod_tellAppended N v0 r71.2) fun r74 =>
  if (r74.1) = 0 then
  (f_Mod_perform_490 N v0 0 r74.2)
  else
  (f_Mod_perform_490 N v0 1 r74.2)))
  else
  (
  if x2 = 115 then
  (z_b (gO h v0 12) fun u77 =>
  z_b (f_Mod_substituted N v0 v1 h) fun r78 =>
  f_Mod_perform_520 N v2 r78.2)
  else
  (
  if x2 = 116 then
  (z_b (gI h v0 12 74) fun x80 =>
  if x80 = 0 then
  (some (v2 + 1, h))
  else
  (z_b (sF h v0 12 74 (.int 0)) fun h82 =>
  z_b (gR h82 v0 12 18) fun x83 =>
  z_b (aI h82 x83 0 v1) fun x84 =>
  if x84 = (-1) then
  (z_b (gR h82 v0 12 24) fun x88 =>
  z_b (gI h82 v0 12 7) fun x89 =>
  z_b (aI h82 x88 0 x89) fun x90 =>
  some (x90, h82))
  else
  (z_b (gR h82 v0 12 18) fun x86 =>
  z_b (aI h82 x86 0 v1) fun x87 =>
  some (x87, h82))))
  else
  (
  if x2 = 120 then
  (z_b (gR h v0 12 9) fun x92 =>
  z_b (aI h x92 0 v1) fun x93 =>
  z_b (gO h v0 12) fun u94 =>
  z_b (f_Mod_holds N v0 x93 h) fun r95 =>
  f_Mod_perform_520 N v2 r95.2)
  else
  (
  if x2 = 121 then
  (z_b (gO h v0 12) fun u97 =>
  z_b (f_Mod_exchanged N v0 v1 h) fun r98 =>
  f_Mod_perform_520 N v2 r98)
  else
  (
  f_Mod_perform_520 N v2 h))))))))))))))))))))
set_option maxRecDepth 20000 in
set_option maxHeartbeats 2000000 in
theorem s_Mod_perform {l : Launch} {D : va_G} {dA : Nat → ClassId} {B N : Nat} {v0 : Nat} {v1 : Int32} {v2 : Int32} {h h' : z_H} {r : Int32} (hf : f_Mod_perform N v0 v1 v2 h = some (r, h')) : z_Met l y_Mod_perform prog_14_method_64_code 4 (some .int) 5 116 D dA B [.ref v0, .int v1, .int v2] h (some (.int r)) h' := by
  refine z_of (by decide) (Nat.le_of_ble_eq_true rfl) (fun p e s m below meth c ls X hI hl => ?_)
  have hx := z_hx X
  have hb := z_hb X
  have hl : lv_has ls 4 [(0, .ref v0), (1, .int v1), (2, .int v2)] := hl
  unfold f_Mod_perform at hf
  obtain ⟨locs, hlo⟩ : ∃ z : List Loc, z = [] := ⟨_, rfl⟩
  rw [← hlo] at hI ⊢
  refine lv_aload_n hx hb d_Mod_perform_0 rfl (lv_at hl 0 rfl) ?_
  obtain ⟨x1, ex1, hf⟩ := z_bs hf
  refine z_getF X hI (k := 9) (ci := 12) (gR_s ex1) i_Mod rfl (by decide) wf_Mod_23 d_Mod_perform_1 ?_
  refine lv_iload_n hx hb d_Mod_perform_4 rfl (lv_at hl 1 rfl) ?_
  obtain ⟨x2, ex2, hf⟩ := z_bs hf
  refine z_iald X hI ex2 d_Mod_perform_5 ?_
  by_cases c3 : x2 = 61
  · rw [if_pos c3] at hf
    refine lv_tableIn (off := 456) (tgt := 462) hx hb d_Mod_perform_6 (by rw [c3]; decide) (by rw [c3]; decide) (by rw [c3]; rfl) (by decide) ?_
    refine lv_aload_n hx hb d_Mod_perform_462 rfl (lv_at hl 0 rfl) ?_
    obtain ⟨u4, eu4, hf⟩ := z_bs hf
    obtain ⟨r5, er5, hf⟩ := z_bs hf
    refine z_callV (As := []) (rest := []) (r := (some (.int r5.1))) (h' := r5.2) X hI eu4 (s_Mod_tellNumber er5) rfl rfl wm_Mod_413 yi_Mod_tellNumber rfl hl.1 rfl (Nat.le_of_ble_eq_true rfl) (by decide) (by decide) d_Mod_perform_463 (fun H locs hI => ?_)
    refine W.eq (g2 := F0 m 466 ls [.int (r5.1)]) rfl ?_
    refine lv_pop hx hb d_Mod_perform_466 rfl ?_
    refine lv_goto (tgt := 520) hx hb d_Mod_perform_467 (by decide) ?_
    exact s_Mod_perform_520 X  v2 r5.2 _ _ _ hI (lv_sub hl [2] rfl) hf
  · rw [if_neg c3] at hf
    by_cases c6 : x2 = 68
    · rw [if_pos c6] at hf
      refine lv_tableIn (off := 426) (tgt := 432) hx hb d_Mod_perform_6 (by rw [c6]; decide) (by rw [c6]; decide) (by rw [c6]; rfl) (by decide) ?_
      refine lv_aload_n hx hb d_Mod_perform_432 rfl (lv_at hl 0 rfl) ?_
      obtain ⟨u7, eu7, hf⟩ := z_bs hf
      obtain ⟨r8, er8, hf⟩ := z_bs hf
      refine z_callV (As := []) (rest := []) (r := (some (.int r8.1))) (h' := r8.2) X hI eu7 (s_Mod_cut er8) rfl rfl wm_Mod_406 yi_Mod_cut rfl hl.1 rfl (Nat.le_of_ble_eq_true rfl) (by decide) (by decide) d_Mod_perform_433 (fun H locs hI => ?_)
      refine W.eq (g2 := F0 m 436 ls [.int (r8.1)]) rfl ?_
      cases hf
      exact z_iret X hI d_Mod_perform_436
    · rw [if_neg c6] at hf
      by_cases c9 : x2 = 71
      · rw [if_pos c9] at hf
        refine lv_tableIn (off := 500) (tgt := 506) hx hb d_Mod_perform_6 (by rw [c9]; decide) (by rw [c9]; decide) (by rw [c9]; rfl) (by decide) ?_
        refine lv_aload_n hx hb d_Mod_perform_506 rfl (lv_at hl 0 rfl) ?_
        refine lv_aload_n hx hb d_Mod_perform_507 rfl (lv_at hl 0 rfl) ?_
        obtain ⟨x10, ex10, hf⟩ := z_bs hf
        refine z_getF X hI (k := 9) (ci := 12) (gR_s ex10) i_Mod rfl (by decide) wf_Mod_23 d_Mod_perform_508 ?_
        refine lv_iload_n hx hb d_Mod_perform_511 rfl (lv_at hl 1 rfl) ?_
        obtain ⟨x11, ex11, hf⟩ := z_bs hf
        refine z_iald X hI ex11 d_Mod_perform_512 ?_
        obtain ⟨u12, eu12, hf⟩ := z_bs hf
        obtain ⟨r13, er13, hf⟩ := z_bs hf
        refine z_callV (As := [.int x11]) (rest := []) (r := (some (.int r13.1))) (h' := r13.2) X hI eu12 (s_Mod_holds er13) rfl rfl wm_Mod_416 yi_Mod_holds rfl hl.1 rfl (Nat.le_of_ble_eq_true rfl) (by decide) (by decide) d_Mod_perform_513 (fun H locs hI => ?_)
        refine W.eq (g2 := F0 m 516 ls [.int (r13.1)]) rfl ?_
        refine lv_pop hx hb d_Mod_perform_516 rfl ?_
        refine lv_goto (tgt := 520) hx hb d_Mod_perform_517 (by decide) ?_
        exact s_Mod_perform_520 X  v2 r13.2 _ _ _ hI (lv_sub hl [2] rfl) hf
      · rw [if_neg c9] at hf
        by_cases c14 : x2 = 72
        · rw [if_pos c14] at hf
          refine lv_tableIn (off := 500) (tgt := 506) hx hb d_Mod_perform_6 (by rw [c14]; decide) (by rw [c14]; decide) (by rw [c14]; rfl) (by decide) ?_
          refine lv_aload_n hx hb d_Mod_perform_506 rfl (lv_at hl 0 rfl) ?_
          refine lv_aload_n hx hb d_Mod_perform_507 rfl (lv_at hl 0 rfl) ?_
          obtain ⟨x15, ex15, hf⟩ := z_bs hf
          refine z_getF X hI (k := 9) (ci := 12) (gR_s ex15) i_Mod rfl (by decide) wf_Mod_23 d_Mod_perform_508 ?_
          refine lv_iload_n hx hb d_Mod_perform_511 rfl (lv_at hl 1 rfl) ?_
          obtain ⟨x16, ex16, hf⟩ := z_bs hf
          refine z_iald X hI ex16 d_Mod_perform_512 ?_
          obtain ⟨u17, eu17, hf⟩ := z_bs hf
          obtain ⟨r18, er18, hf⟩ := z_bs hf
          refine z_callV (As := [.int x16]) (rest := []) (r := (some (.int r18.1))) (h' := r18.2) X hI eu17 (s_Mod_holds er18) rfl rfl wm_Mod_416 yi_Mod_holds rfl hl.1 rfl (Nat.le_of_ble_eq_true rfl) (by decide) (by decide) d_Mod_perform_513 (fun H locs hI => ?_)
          refine W.eq (g2 := F0 m 516 ls [.int (r18.1)]) rfl ?_
          refine lv_pop hx hb d_Mod_perform_516 rfl ?_
          refine lv_goto (tgt := 520) hx hb d_Mod_perform_517 (by decide) ?_
          exact s_Mod_perform_520 X  v2 r18.2 _ _ _ hI (lv_sub hl [2] rfl) hf
        · rw [if_neg c14] at hf
          by_cases c19 : x2 = 78
          · rw [if_pos c19] at hf
            refine lv_tableIn (off := 449) (tgt := 455) hx hb d_Mod_perform_6 (by rw [c19]; decide) (by rw [c19]; decide) (by rw [c19]; rfl) (by decide) ?_
            refine lv_aload_n hx hb d_Mod_perform_455 rfl (lv_at hl 0 rfl) ?_
            refine lv_iload_n hx hb d_Mod_perform_456 rfl (lv_at hl 1 rfl) ?_
            refine lv_iload_n hx hb d_Mod_perform_457 rfl (lv_at hl 2 rfl) ?_
            obtain ⟨u20, eu20, hf⟩ := z_bs hf
            obtain ⟨r21, er21, hf⟩ := z_bs hf
            refine z_callV (As := [.int v1, .int v2]) (rest := []) (r := (some (.int r21.1))) (h' := r21.2) X hI eu20 (s_Mod_nextLine er21) rfl rfl wm_Mod_409 yi_Mod_nextLine rfl hl.1 rfl (Nat.le_of_ble_eq_true rfl) (by decide) (by decide) d_Mod_perform_458 (fun H locs hI => ?_)
            refine W.eq (g2 := F0 m 461 ls [.int (r21.1)]) rfl ?_
            cases hf
            exact z_iret X hI d_Mod_perform_461
          · rw [if_neg c19] at hf
            by_cases c22 : x2 = 80
            · rw [if_pos c22] at hf
              refine lv_tableIn (off := 440) (tgt := 446) hx hb d_Mod_perform_6 (by rw [c22]; decide) (by rw [c22]; decide) (by rw [c22]; rfl) (by decide) ?_
              refine lv_aload_n hx hb d_Mod_perform_446 rfl (lv_at hl 0 rfl) ?_
              refine lv_iconst (v := 1) hx hb d_Mod_perform_447 (by decide) ?_
              obtain ⟨u23, eu23, hf⟩ := z_bs hf
              obtain ⟨r24, er24, hf⟩ := z_bs hf
              refine z_callV (As := [.int 1]) (rest := []) (r := (some (.int r24.1))) (h' := r24.2) X hI eu23 (s_Mod_tellSpace er24) rfl rfl wm_Mod_374 yi_Mod_tellSpace rfl hl.1 rfl (Nat.le_of_ble_eq_true rfl) (by decide) (by decide) d_Mod_perform_448 (fun H locs hI => ?_)
              refine W.eq (g2 := F0 m 451 ls [.int (r24.1)]) rfl ?_
              refine lv_pop hx hb d_Mod_perform_451 rfl ?_
              refine lv_goto (tgt := 520) hx hb d_Mod_perform_452 (by decide) ?_
              exact s_Mod_perform_520 X  v2 r24.2 _ _ _ hI (lv_sub hl [2] rfl) hf
            · rw [if_neg c22] at hf
              by_cases c25 : x2 = 97
              · rw [if_pos c25] at hf
                refine lv_tableIn (off := 349) (tgt := 355) hx hb d_Mod_perform_6 (by rw [c25]; decide) (by rw [c25]; decide) (by rw [c25]; rfl) (by decide) ?_
                refine lv_aload_n hx hb d_Mod_perform_355 rfl (lv_at hl 0 rfl) ?_
                refine lv_iload_n hx hb d_Mod_perform_356 rfl (lv_at hl 1 rfl) ?_
                obtain ⟨u26, eu26, hf⟩ := z_bs hf
                obtain ⟨r27, er27, hf⟩ := z_bs hf
                refine z_callV (As := [.int v1]) (rest := []) (r := (some (.int r27.1))) (h' := r27.2) X hI eu26 (s_Mod_append er27) rfl rfl wm_Mod_400 yi_Mod_append rfl hl.1 rfl (Nat.le_of_ble_eq_true rfl) (by decide) (by decide) d_Mod_perform_357 (fun H locs hI => ?_)
                refine W.eq (g2 := F0 m 360 ls [.int (r27.1)]) rfl ?_
                refine lv_pop hx hb d_Mod_perform_360 rfl ?_
                refine lv_goto (tgt := 520) hx hb d_Mod_perform_361 (by decide) ?_
                exact s_Mod_perform_520 X  v2 r27.2 _ _ _ hI (lv_sub hl [2] rfl) hf
              · rw [if_neg c25] at hf
                by_cases c28 : x2 = 98
                · rw [if_pos c28] at hf
                  refine lv_tableIn (off := 258) (tgt := 264) hx hb d_Mod_perform_6 (by rw [c28]; decide) (by rw [c28]; decide) (by rw [c28]; rfl) (by decide) ?_
                  refine lv_aload_n hx hb d_Mod_perform_264 rfl (lv_at hl 0 rfl) ?_
                  obtain ⟨x29, ex29, hf⟩ := z_bs hf
                  refine z_getF X hI (k := 18) (ci := 12) (gR_s ex29) i_Mod rfl (by decide) wf_Mod_50 d_Mod_perform_265 ?_
                  refine lv_iload_n hx hb d_Mod_perform_268 rfl (lv_at hl 1 rfl) ?_
                  obtain ⟨x30, ex30, hf⟩ := z_bs hf
                  refine z_iald X hI ex30 d_Mod_perform_269 ?_
                  refine lv_iconst (v := (-1)) hx hb d_Mod_perform_270 (by decide) ?_
                  refine lv_icmp_ne (tgt := 286) hx hb d_Mod_perform_271 (by decide) (fun c31 => ?_) (fun c31 => ?_)
                  · rw [if_neg c31] at hf
                    refine lv_aload_n hx hb d_Mod_perform_286 rfl (lv_at hl 0 rfl) ?_
                    obtain ⟨x32, ex32, hf⟩ := z_bs hf
                    refine z_getF X hI (k := 18) (ci := 12) (gR_s ex32) i_Mod rfl (by decide) wf_Mod_50 d_Mod_perform_287 ?_
                    refine lv_iload_n hx hb d_Mod_perform_290 rfl (lv_at hl 1 rfl) ?_
                    obtain ⟨x33, ex33, hf⟩ := z_bs hf
                    refine z_iald X hI ex33 d_Mod_perform_291 ?_
                    cases hf
                    exact z_iret X hI d_Mod_perform_292
                  · rw [if_pos c31] at hf
                    refine lv_aload_n hx hb d_Mod_perform_274 rfl (lv_at hl 0 rfl) ?_
                    obtain ⟨x34, ex34, hf⟩ := z_bs hf
                    refine z_getF X hI (k := 24) (ci := 12) (gR_s ex34) i_Mod rfl (by decide) wf_Mod_69 d_Mod_perform_275 ?_
                    refine lv_aload_n hx hb d_Mod_perform_278 rfl (lv_at hl 0 rfl) ?_
                    obtain ⟨x35, ex35, hf⟩ := z_bs hf
                    refine z_getF X hI (k := 7) (ci := 12) (gI_s ex35) i_Mod rfl (by decide) wf_Mod_284 d_Mod_perform_279 ?_
                    obtain ⟨x36, ex36, hf⟩ := z_bs hf
                    refine z_iald X hI ex36 d_Mod_perform_282 ?_
                    refine lv_goto (tgt := 292) hx hb d_Mod_perform_283 (by decide) ?_
                    cases hf
                    exact z_iret X hI d_Mod_perform_292
                · rw [if_neg c28] at hf
                  by_cases c37 : x2 = 99
                  · rw [if_pos c37] at hf
                    refine lv_tableIn (off := 367) (tgt := 373) hx hb d_Mod_perform_6 (by rw [c37]; decide) (by rw [c37]; decide) (by rw [c37]; rfl) (by decide) ?_
                    refine lv_aload_n hx hb d_Mod_perform_373 rfl (lv_at hl 0 rfl) ?_
                    refine lv_iconst (v := 0) hx hb d_Mod_perform_374 (by decide) ?_
                    obtain ⟨h38, eh38, hf⟩ := z_bs hf
                    refine z_putF X hI (k := 65) (ci := 12) (ty0 := t_Mod) eh38 i_Mod t_Mod_ok n_Mod rfl (by decide) wf_Mod_319 rfl rfl rfl d_Mod_perform_375 (fun H locs hI => ?_)
                    refine lv_aload_n hx hb d_Mod_perform_378 rfl (lv_at hl 0 rfl) ?_
                    obtain ⟨x39, ex39, hf⟩ := z_bs hf
                    refine z_getF X hI (k := 12) (ci := 12) (gR_s ex39) i_Mod rfl (by decide) wf_Mod_32 d_Mod_perform_379 ?_
                    refine lv_iload_n hx hb d_Mod_perform_382 rfl (lv_at hl 1 rfl) ?_
                    obtain ⟨x40, ex40, hf⟩ := z_bs hf
                    refine z_iald X hI ex40 d_Mod_perform_383 ?_
                    refine lv_if_eq (tgt := 403) hx hb d_Mod_perform_384 (by decide) (fun c41 => ?_) (fun c41 => ?_)
                    · rw [if_pos c41] at hf
                      exact s_Mod_perform_403 X  v0 v1 h38 _ _ _ hI (lv_sub hl [0, 1] rfl) hf
                    · rw [if_neg c41] at hf
                      refine lv_aload_n hx hb d_Mod_perform_387 rfl (lv_at hl 0 rfl) ?_
                      obtain ⟨x42, ex42, hf⟩ := z_bs hf
                      refine z_getF X hI (k := 21) (ci := 12) (gR_s ex42) i_Mod rfl (by decide) wf_Mod_59 d_Mod_perform_388 ?_
                      refine lv_iload_n hx hb d_Mod_perform_391 rfl (lv_at hl 1 rfl) ?_
                      obtain ⟨x43, ex43, hf⟩ := z_bs hf
                      refine z_zald X hI ex43 d_Mod_perform_392 ?_
                      refine lv_if_ne (tgt := 403) hx hb d_Mod_perform_393 (by decide) (fun c44 => ?_) (fun c44 => ?_)
                      · rw [if_neg c44] at hf
                        exact s_Mod_perform_403 X  v0 v1 h38 _ _ _ hI (lv_sub hl [0, 1] rfl) hf
                      · rw [if_pos c44] at hf
                        refine lv_aload_n hx hb d_Mod_perform_396 rfl (lv_at hl 0 rfl) ?_
                        obtain ⟨x45, ex45, hf⟩ := z_bs hf
                        refine z_getF X hI (k := 75) (ci := 12) (gI_s ex45) i_Mod rfl (by decide) wf_Mod_352 d_Mod_perform_397 ?_
                        refine lv_if_eq (tgt := 409) hx hb d_Mod_perform_400 (by decide) (fun c46 => ?_) (fun c46 => ?_)
                        · rw [if_pos c46] at hf
                          exact s_Mod_perform_409 X  v0 h38 _ _ _ hI (lv_sub hl [0] rfl) hf
                        · rw [if_neg c46] at hf
                          exact s_Mod_perform_403 X  v0 v1 h38 _ _ _ hI (lv_sub hl [0, 1] rfl) hf
                  · rw [if_neg c37] at hf
                    by_cases c47 : x2 = 100
                    · rw [if_pos c47] at hf
                      refine lv_tableIn (off := 420) (tgt := 426) hx hb d_Mod_perform_6 (by rw [c47]; decide) (by rw [c47]; decide) (by rw [c47]; rfl) (by decide) ?_
                      refine lv_aload_n hx hb d_Mod_perform_426 rfl (lv_at hl 0 rfl) ?_
                      refine lv_iconst (v := 0) hx hb d_Mod_perform_427 (by decide) ?_
                      obtain ⟨u48, eu48, hf⟩ := z_bs hf
                      obtain ⟨r49, er49, hf⟩ := z_bs hf
                      refine z_callV (As := [.int 0]) (rest := []) (r := (some (.int r49.1))) (h' := r49.2) X hI eu48 (s_Mod_endCycle er49) rfl rfl wm_Mod_390 yi_Mod_endCycle rfl hl.1 rfl (Nat.le_of_ble_eq_true rfl) (by decide) (by decide) d_Mod_perform_428 (fun H locs hI => ?_)
                      refine W.eq (g2 := F0 m 431 ls [.int (r49.1)]) rfl ?_
                      cases hf
                      exact z_iret X hI d_Mod_perform_431
                    · rw [if_neg c47] at hf
                      by_cases c50 : x2 = 103
                      · rw [if_pos c50] at hf
                        refine lv_tableIn (off := 500) (tgt := 506) hx hb d_Mod_perform_6 (by rw [c50]; decide) (by rw [c50]; decide) (by rw [c50]; rfl) (by decide) ?_
                        refine lv_aload_n hx hb d_Mod_perform_506 rfl (lv_at hl 0 rfl) ?_
                        refine lv_aload_n hx hb d_Mod_perform_507 rfl (lv_at hl 0 rfl) ?_
                        obtain ⟨x51, ex51, hf⟩ := z_bs hf
                        refine z_getF X hI (k := 9) (ci := 12) (gR_s ex51) i_Mod rfl (by decide) wf_Mod_23 d_Mod_perform_508 ?_
                        refine lv_iload_n hx hb d_Mod_perform_511 rfl (lv_at hl 1 rfl) ?_
                        obtain ⟨x52, ex52, hf⟩ := z_bs hf
                        refine z_iald X hI ex52 d_Mod_perform_512 ?_
                        obtain ⟨u53, eu53, hf⟩ := z_bs hf
                        obtain ⟨r54, er54, hf⟩ := z_bs hf
                        refine z_callV (As := [.int x52]) (rest := []) (r := (some (.int r54.1))) (h' := r54.2) X hI eu53 (s_Mod_holds er54) rfl rfl wm_Mod_416 yi_Mod_holds rfl hl.1 rfl (Nat.le_of_ble_eq_true rfl) (by decide) (by decide) d_Mod_perform_513 (fun H locs hI => ?_)
                        refine W.eq (g2 := F0 m 516 ls [.int (r54.1)]) rfl ?_
                        refine lv_pop hx hb d_Mod_perform_516 rfl ?_
                        refine lv_goto (tgt := 520) hx hb d_Mod_perform_517 (by decide) ?_
                        exact s_Mod_perform_520 X  v2 r54.2 _ _ _ hI (lv_sub hl [2] rfl) hf
                      · rw [if_neg c50] at hf
                        by_cases c55 : x2 = 104
                        · rw [if_pos c55] at hf
                          refine lv_tableIn (off := 500) (tgt := 506) hx hb d_Mod_perform_6 (by rw [c55]; decide) (by rw [c55]; decide) (by rw [c55]; rfl) (by decide) ?_
                          refine lv_aload_n hx hb d_Mod_perform_506 rfl (lv_at hl 0 rfl) ?_
                          refine lv_aload_n hx hb d_Mod_perform_507 rfl (lv_at hl 0 rfl) ?_
                          obtain ⟨x56, ex56, hf⟩ := z_bs hf
                          refine z_getF X hI (k := 9) (ci := 12) (gR_s ex56) i_Mod rfl (by decide) wf_Mod_23 d_Mod_perform_508 ?_
                          refine lv_iload_n hx hb d_Mod_perform_511 rfl (lv_at hl 1 rfl) ?_
                          obtain ⟨x57, ex57, hf⟩ := z_bs hf
                          refine z_iald X hI ex57 d_Mod_perform_512 ?_
                          obtain ⟨u58, eu58, hf⟩ := z_bs hf
                          obtain ⟨r59, er59, hf⟩ := z_bs hf
                          refine z_callV (As := [.int x57]) (rest := []) (r := (some (.int r59.1))) (h' := r59.2) X hI eu58 (s_Mod_holds er59) rfl rfl wm_Mod_416 yi_Mod_holds rfl hl.1 rfl (Nat.le_of_ble_eq_true rfl) (by decide) (by decide) d_Mod_perform_513 (fun H locs hI => ?_)
                          refine W.eq (g2 := F0 m 516 ls [.int (r59.1)]) rfl ?_
                          refine lv_pop hx hb d_Mod_perform_516 rfl ?_
                          refine lv_goto (tgt := 520) hx hb d_Mod_perform_517 (by decide) ?_
                          exact s_Mod_perform_520 X  v2 r59.2 _ _ _ hI (lv_sub hl [2] rfl) hf
                        · rw [if_neg c55] at hf
                          by_cases c60 : x2 = 105
                          · rw [if_pos c60] at hf
                            refine lv_tableIn (off := 358) (tgt := 364) hx hb d_Mod_perform_6 (by rw [c60]; decide) (by rw [c60]; decide) (by rw [c60]; rfl) (by decide) ?_
                            refine lv_aload_n hx hb d_Mod_perform_364 rfl (lv_at hl 0 rfl) ?_
                            refine lv_iload_n hx hb d_Mod_perform_365 rfl (lv_at hl 1 rfl) ?_
                            obtain ⟨u61, eu61, hf⟩ := z_bs hf
                            obtain ⟨r62, er62, hf⟩ := z_bs hf
                            refine z_callV (As := [.int v1]) (rest := []) (r := (some (.int r62.1))) (h' := r62.2) X hI eu61 (s_Mod_tellText er62) rfl rfl wm_Mod_403 yi_Mod_tellText rfl hl.1 rfl (Nat.le_of_ble_eq_true rfl) (by decide) (by decide) d_Mod_perform_366 (fun H locs hI => ?_)
                            refine W.eq (g2 := F0 m 369 ls [.int (r62.1)]) rfl ?_
                            refine lv_pop hx hb d_Mod_perform_369 rfl ?_
                            refine lv_goto (tgt := 520) hx hb d_Mod_perform_370 (by decide) ?_
                            exact s_Mod_perform_520 X  v2 r62.2 _ _ _ hI (lv_sub hl [2] rfl) hf
                          · rw [if_neg c60] at hf
                            by_cases c63 : x2 = 110
                            · rw [if_pos c63] at hf
                              refine lv_tableIn (off := 449) (tgt := 455) hx hb d_Mod_perform_6 (by rw [c63]; decide) (by rw [c63]; decide) (by rw [c63]; rfl) (by decide) ?_
                              refine lv_aload_n hx hb d_Mod_perform_455 rfl (lv_at hl 0 rfl) ?_
                              refine lv_iload_n hx hb d_Mod_perform_456 rfl (lv_at hl 1 rfl) ?_
                              refine lv_iload_n hx hb d_Mod_perform_457 rfl (lv_at hl 2 rfl) ?_
                              obtain ⟨u64, eu64, hf⟩ := z_bs hf
                              obtain ⟨r65, er65, hf⟩ := z_bs hf
                              refine z_callV (As := [.int v1, .int v2]) (rest := []) (r := (some (.int r65.1))) (h' := r65.2) X hI eu64 (s_Mod_nextLine er65) rfl rfl wm_Mod_409 yi_Mod_nextLine rfl hl.1 rfl (Nat.le_of_ble_eq_true rfl) (by decide) (by decide) d_Mod_perform_458 (fun H locs hI => ?_)
                              refine W.eq (g2 := F0 m 461 ls [.int (r65.1)]) rfl ?_
                              cases hf
                              exact z_iret X hI d_Mod_perform_461
                            · rw [if_neg c63] at hf
                              by_cases c66 : x2 = 112
                              · rw [if_pos c66] at hf
                                refine lv_tableIn (off := 431) (tgt := 437) hx hb d_Mod_perform_6 (by rw [c66]; decide) (by rw [c66]; decide) (by rw [c66]; rfl) (by decide) ?_
                                refine lv_aload_n hx hb d_Mod_perform_437 rfl (lv_at hl 0 rfl) ?_
                                refine lv_iconst (v := 0) hx hb d_Mod_perform_438 (by decide) ?_
                                obtain ⟨u67, eu67, hf⟩ := z_bs hf
                                obtain ⟨r68, er68, hf⟩ := z_bs hf
                                refine z_callV (As := [.int 0]) (rest := []) (r := (some (.int r68.1))) (h' := r68.2) X hI eu67 (s_Mod_tellSpace er68) rfl rfl wm_Mod_374 yi_Mod_tellSpace rfl hl.1 rfl (Nat.le_of_ble_eq_true rfl) (by decide) (by decide) d_Mod_perform_439 (fun H locs hI => ?_)
                                refine W.eq (g2 := F0 m 442 ls [.int (r68.1)]) rfl ?_
                                refine lv_pop hx hb d_Mod_perform_442 rfl ?_
                                refine lv_goto (tgt := 520) hx hb d_Mod_perform_443 (by decide) ?_
                                exact s_Mod_perform_520 X  v2 r68.2 _ _ _ hI (lv_sub hl [2] rfl) hf
                              · rw [if_neg c66] at hf
                                by_cases c69 : x2 = 113
                                · rw [if_pos c69] at hf
                                  refine lv_tableIn (off := 464) (tgt := 470) hx hb d_Mod_perform_6 (by rw [c69]; decide) (by rw [c69]; decide) (by rw [c69]; rfl) (by decide) ?_
                                  refine lv_aload_n hx hb d_Mod_perform_470 rfl (lv_at hl 0 rfl) ?_
                                  refine lv_iconst (v := 0) hx hb d_Mod_perform_471 (by decide) ?_
                                  obtain ⟨u70, eu70, hf⟩ := z_bs hf
                                  obtain ⟨r71, er71, hf⟩ := z_bs hf
                                  refine z_callV (As := [.int 0]) (rest := []) (r := (some (.int r71.1))) (h' := r71.2) X hI eu70 (s_Mod_tellSpace er71) rfl rfl wm_Mod_374 yi_Mod_tellSpace rfl hl.1 rfl (Nat.le_of_ble_eq_true rfl) (by decide) (by decide) d_Mod_perform_472 (fun H locs hI => ?_)
                                  refine W.eq (g2 := F0 m 475 ls [.int (r71.1)]) rfl ?_
                                  refine lv_if_eq (tgt := 489) hx hb d_Mod_perform_475 (by decide) (fun c72 => ?_) (fun c72 => ?_)
                                  · rw [if_pos c72] at hf
                                    refine lv_iconst (v := 0) hx hb d_Mod_perform_489 (by decide) ?_
                                    exact s_Mod_perform_490 X  v0 0 r71.2 _ _ _ hI (lv_sub hl [0] rfl) hf
                                  · rw [if_neg c72] at hf
                                    refine lv_aload_n hx hb d_Mod_perform_478 rfl (lv_at hl 0 rfl) ?_
                                    obtain ⟨u73, eu73, hf⟩ := z_bs hf
                                    obtain ⟨r74, er74, hf⟩ := z_bs hf
                                    refine z_callV (As := []) (rest := []) (r := (some (.int r74.1))) (h' := r74.2) X hI eu73 (s_Mod_tellAppended er74) rfl rfl wm_Mod_381 yi_Mod_tellAppended rfl hl.1 rfl (Nat.le_of_ble_eq_true rfl) (by decide) (by decide) d_Mod_perform_479 (fun H locs hI => ?_)
                                    refine W.eq (g2 := F0 m 482 ls [.int (r74.1)]) rfl ?_
                                    refine lv_if_eq (tgt := 489) hx hb d_Mod_perform_482 (by decide) (fun c75 => ?_) (fun c75 => ?_)
                                    · rw [if_pos c75] at hf
                                      refine lv_iconst (v := 0) hx hb d_Mod_perform_489 (by decide) ?_
                                      exact s_Mod_perform_490 X  v0 0 r74.2 _ _ _ hI (lv_sub hl [0] rfl) hf
                                    · rw [if_neg c75] at hf
                                      refine lv_iconst (v := 1) hx hb d_Mod_perform_485 (by decide) ?_
                                      refine lv_goto (tgt := 490) hx hb d_Mod_perform_486 (by decide) ?_
                                      exact s_Mod_perform_490 X  v0 1 r74.2 _ _ _ hI (lv_sub hl [0] rfl) hf
                                · rw [if_neg c69] at hf
                                  by_cases c76 : x2 = 115
                                  · rw [if_pos c76] at hf
                                    refine lv_tableIn (off := 332) (tgt := 338) hx hb d_Mod_perform_6 (by rw [c76]; decide) (by rw [c76]; decide) (by rw [c76]; rfl) (by decide) ?_
                                    refine lv_aload_n hx hb d_Mod_perform_338 rfl (lv_at hl 0 rfl) ?_
                                    refine lv_iload_n hx hb d_Mod_perform_339 rfl (lv_at hl 1 rfl) ?_
                                    obtain ⟨u77, eu77, hf⟩ := z_bs hf
                                    obtain ⟨r78, er78, hf⟩ := z_bs hf
                                    refine z_callV (As := [.int v1]) (rest := []) (r := (some (.int r78.1))) (h' := r78.2) X hI eu77 (s_Mod_substituted er78) rfl rfl wm_Mod_394 yi_Mod_substituted rfl hl.1 rfl (Nat.le_of_ble_eq_true rfl) (by decide) (by decide) d_Mod_perform_340 (fun H locs hI => ?_)
                                    refine W.eq (g2 := F0 m 343 ls [.int (r78.1)]) rfl ?_
                                    refine lv_pop hx hb d_Mod_perform_343 rfl ?_
                                    refine lv_goto (tgt := 520) hx hb d_Mod_perform_344 (by decide) ?_
                                    exact s_Mod_perform_520 X  v2 r78.2 _ _ _ hI (lv_sub hl [2] rfl) hf
                                  · rw [if_neg c76] at hf
                                    by_cases c79 : x2 = 116
                                    · rw [if_pos c79] at hf
                                      refine lv_tableIn (off := 287) (tgt := 293) hx hb d_Mod_perform_6 (by rw [c79]; decide) (by rw [c79]; decide) (by rw [c79]; rfl) (by decide) ?_
                                      refine lv_aload_n hx hb d_Mod_perform_293 rfl (lv_at hl 0 rfl) ?_
                                      obtain ⟨x80, ex80, hf⟩ := z_bs hf
                                      refine z_getF X hI (k := 74) (ci := 12) (gI_s ex80) i_Mod rfl (by decide) wf_Mod_371 d_Mod_perform_294 ?_
                                      refine lv_if_ne (tgt := 304) hx hb d_Mod_perform_297 (by decide) (fun c81 => ?_) (fun c81 => ?_)
                                      · rw [if_neg c81] at hf
                                        refine lv_aload_n hx hb d_Mod_perform_304 rfl (lv_at hl 0 rfl) ?_
                                        refine lv_iconst (v := 0) hx hb d_Mod_perform_305 (by decide) ?_
                                        obtain ⟨h82, eh82, hf⟩ := z_bs hf
                                        refine z_putF X hI (k := 74) (ci := 12) (ty0 := t_Mod) eh82 i_Mod t_Mod_ok n_Mod rfl (by decide) wf_Mod_371 rfl rfl rfl d_Mod_perform_306 (fun H locs hI => ?_)
                                        refine lv_aload_n hx hb d_Mod_perform_309 rfl (lv_at hl 0 rfl) ?_
                                        obtain ⟨x83, ex83, hf⟩ := z_bs hf
                                        refine z_getF X hI (k := 18) (ci := 12) (gR_s ex83) i_Mod rfl (by decide) wf_Mod_50 d_Mod_perform_310 ?_
                                        refine lv_iload_n hx hb d_Mod_perform_313 rfl (lv_at hl 1 rfl) ?_
                                        obtain ⟨x84, ex84, hf⟩ := z_bs hf
                                        refine z_iald X hI ex84 d_Mod_perform_314 ?_
                                        refine lv_iconst (v := (-1)) hx hb d_Mod_perform_315 (by decide) ?_
                                        refine lv_icmp_ne (tgt := 331) hx hb d_Mod_perform_316 (by decide) (fun c85 => ?_) (fun c85 => ?_)
                                        · rw [if_neg c85] at hf
                                          refine lv_aload_n hx hb d_Mod_perform_331 rfl (lv_at hl 0 rfl) ?_
                                          obtain ⟨x86, ex86, hf⟩ := z_bs hf
                                          refine z_getF X hI (k := 18) (ci := 12) (gR_s ex86) i_Mod rfl (by decide) wf_Mod_50 d_Mod_perform_332 ?_
                                          refine lv_iload_n hx hb d_Mod_perform_335 rfl (lv_at hl 1 rfl) ?_
                                          obtain ⟨x87, ex87, hf⟩ := z_bs hf
                                          refine z_iald X hI ex87 d_Mod_perform_336 ?_
                                          cases hf
                                          exact z_iret X hI d_Mod_perform_337
                                        · rw [if_pos c85] at hf
                                          refine lv_aload_n hx hb d_Mod_perform_319 rfl (lv_at hl 0 rfl) ?_
                                          obtain ⟨x88, ex88, hf⟩ := z_bs hf
                                          refine z_getF X hI (k := 24) (ci := 12) (gR_s ex88) i_Mod rfl (by decide) wf_Mod_69 d_Mod_perform_320 ?_
                                          refine lv_aload_n hx hb d_Mod_perform_323 rfl (lv_at hl 0 rfl) ?_
                                          obtain ⟨x89, ex89, hf⟩ := z_bs hf
                                          refine z_getF X hI (k := 7) (ci := 12) (gI_s ex89) i_Mod rfl (by decide) wf_Mod_284 d_Mod_perform_324 ?_
                                          obtain ⟨x90, ex90, hf⟩ := z_bs hf
                                          refine z_iald X hI ex90 d_Mod_perform_327 ?_
                                          refine lv_goto (tgt := 337) hx hb d_Mod_perform_328 (by decide) ?_
                                          cases hf
                                          exact z_iret X hI d_Mod_perform_337
                                      · rw [if_pos c81] at hf
                                        refine lv_iload_n hx hb d_Mod_perform_300 rfl (lv_at hl 2 rfl) ?_
                                        refine lv_iconst (v := 1) hx hb d_Mod_perform_301 (by decide) ?_
                                        refine lv_iadd hx hb d_Mod_perform_302 ?_
                                        cases hf
                                        exact z_iret X hI d_Mod_perform_303
                                    · rw [if_neg c79] at hf
                                      by_cases c91 : x2 = 120
                                      · rw [if_pos c91] at hf
                                        refine lv_tableIn (off := 500) (tgt := 506) hx hb d_Mod_perform_6 (by rw [c91]; decide) (by rw [c91]; decide) (by rw [c91]; rfl) (by decide) ?_
                                        refine lv_aload_n hx hb d_Mod_perform_506 rfl (lv_at hl 0 rfl) ?_
                                        refine lv_aload_n hx hb d_Mod_perform_507 rfl (lv_at hl 0 rfl) ?_
                                        obtain ⟨x92, ex92, hf⟩ := z_bs hf
                                        refine z_getF X hI (k := 9) (ci := 12) (gR_s ex92) i_Mod rfl (by decide) wf_Mod_23 d_Mod_perform_508 ?_
                                        refine lv_iload_n hx hb d_Mod_perform_511 rfl (lv_at hl 1 rfl) ?_
                                        obtain ⟨x93, ex93, hf⟩ := z_bs hf
                                        refine z_iald X hI ex93 d_Mod_perform_512 ?_
                                        obtain ⟨u94, eu94, hf⟩ := z_bs hf
                                        obtain ⟨r95, er95, hf⟩ := z_bs hf
                                        refine z_callV (As := [.int x93]) (rest := []) (r := (some (.int r95.1))) (h' := r95.2) X hI eu94 (s_Mod_holds er95) rfl rfl wm_Mod_416 yi_Mod_holds rfl hl.1 rfl (Nat.le_of_ble_eq_true rfl) (by decide) (by decide) d_Mod_perform_513 (fun H locs hI => ?_)
                                        refine W.eq (g2 := F0 m 516 ls [.int (r95.1)]) rfl ?_
                                        refine lv_pop hx hb d_Mod_perform_516 rfl ?_
                                        refine lv_goto (tgt := 520) hx hb d_Mod_perform_517 (by decide) ?_
                                        exact s_Mod_perform_520 X  v2 r95.2 _ _ _ hI (lv_sub hl [2] rfl) hf
                                      · rw [if_neg c91] at hf
                                        by_cases c96 : x2 = 121
                                        · rw [if_pos c96] at hf
                                          refine lv_tableIn (off := 341) (tgt := 347) hx hb d_Mod_perform_6 (by rw [c96]; decide) (by rw [c96]; decide) (by rw [c96]; rfl) (by decide) ?_
                                          refine lv_aload_n hx hb d_Mod_perform_347 rfl (lv_at hl 0 rfl) ?_
                                          refine lv_iload_n hx hb d_Mod_perform_348 rfl (lv_at hl 1 rfl) ?_
                                          obtain ⟨u97, eu97, hf⟩ := z_bs hf
                                          obtain ⟨r98, er98, hf⟩ := z_bs hf
                                          refine z_callV (As := [.int v1]) (rest := []) (r := none) (h' := r98) X hI eu97 (s_Mod_exchanged er98) rfl rfl wm_Mod_397 yi_Mod_exchanged rfl hl.1 rfl (Nat.le_of_ble_eq_true rfl) (by decide) (by decide) d_Mod_perform_349 (fun H locs hI => ?_)
                                          refine W.eq (g2 := F0 m 352 ls []) rfl ?_
                                          refine lv_goto (tgt := 520) hx hb d_Mod_perform_352 (by decide) ?_
                                          exact s_Mod_perform_520 X  v2 r98 _ _ _ hI (lv_sub hl [2] rfl) hf
                                        · rw [if_neg c96] at hf
                                          refine z_tabD (ks := [61, 68, 71, 72, 78, 80, 97, 98, 99, 100, 103, 104, 105, 110, 112, 113, 115, 116, 120, 121]) (tgt := 520) hx hb d_Mod_perform_6 (by decide) (by decide) (by simp only [List.forall_mem_cons, List.not_mem_nil, false_implies, implies_true, and_true]; exact ⟨z_ne c3 (by decide), z_ne c6 (by decide), z_ne c9 (by decide), z_ne c14 (by decide), z_ne c19 (by decide), z_ne c22 (by decide), z_ne c25 (by decide), z_ne c28 (by decide), z_ne c37 (by decide), z_ne c47 (by decide), z_ne c50 (by decide), z_ne c55 (by decide), z_ne c60 (by decide), z_ne c63 (by decide), z_ne c66 (by decide), z_ne c69 (by decide), z_ne c76 (by decide), z_ne c79 (by decide), z_ne c91 (by decide), z_ne c96 (by decide)⟩) (by decide) ?_
                                          exact s_Mod_perform_520 X  v2 h _ _ _ hI (lv_sub hl [2] rfl) hf
def f_Mod_run_118 (N : Nat)  : Nat → Nat → Int32 → z_H → Option (Int32 × z_H)
  | 0, _, _, _ => none
  | n + 1, v0, v1, h =>
    z_b (gI h v0 12 76) fun x1 =>
    if x1 = 0 then
    (z_b (gR h v0 12 24) fun x4 =>
    z_b (gI h v0 12 7) fun x5 =>
    z_b (aI h x4 0 x5) fun x6 =>
    if v1 < x6 then
    (z_b (gI h v0 12 71) fun x8 =>
    if x8 = 200 then
    (z_b (gO h v0 12) fun u29 =>
    z_b (f_Mod_fail N v0 3 h) fun r30 =>
    some (r30.1, r30.2))
    else
    (z_b (gI h v0 12 71) fun x10 =>
    z_b (sF h v0 12 71 (.int (x10 + 1))) fun h11 =>
    z_b (gI h11 v0 12 7) fun x12 =>
    z_b (some ((40 * x12) + v1)) fun x13 =>
    z_b (gO h11 v0 12) fun u14 =>
    z_b (f_Mod_isDone N v0 x13 h11) fun r15 =>
    z_b (some (r15.1)) fun x16 =>
    z_b (gR r15.2 v0 12 9) fun x17 =>
    z_b (aI r15.2 x17 0 x13) fun x18 =>
    if x18 = 123 then
    (if x16 = 0 then
    (z_b (gR r15.2 v0 12 18) fun x26 =>
    z_b (aI r15.2 x26 0 x13) fun x27 =>
    (f_Mod_run_118 N  n) v0 x27 r15.2)
    else
    (z_b (some (v1 + 1)) fun x28 =>
    (f_Mod_run_118 N  n) v0 x28 r15.2))
    else
    (if x16 = 0 then
    (z_b (some (v1 + 1)) fun x21 =>
    (f_Mod_run_118 N  n) v0 x21 r15.2)
    else
    (z_b (gO r15.2 v0 12) fun u22 =>
    z_b (f_Mod_perform N v0 x13 v1 r15.2) fun r23 =>
    z_b (some (r23.1)) fun x24 =>
    (f_Mod_run_118 N  n) v0 x24 r23.2))))
    else
    (z_b (gO h v0 12) fun u31 =>
    z_b (f_Mod_endCycle N v0 1 h) fun r32 =>
    z_b (some (r32.1)) fun x33 =>
    (f_Mod_run_118 N  n) v0 x33 r32.2))
    else
    (z_b (gI h v0 12 69) fun x3 =>
    some (x3, h))
set_option maxRecDepth 20000 in
set_option maxHeartbeats 2000000 in
theorem s_Mod_run_118 (X : z_X p s m args meth c prog_14_method_65_code 4 (some .int) Ts "StreamForgeModel" D dA B) {N : Nat} {r : Int32} {h' : z_H}   : ∀ n : Nat, ∀ (v0 : Nat) (v1 : Int32) (h : z_H) (H : Heap) (locs : List Loc) (ls : Array Slot), z_I D dA B h s.heap H locs → lv_has ls 4 [(0, .ref v0), (1, .int v1)] → f_Mod_run_118 N  n v0 v1 h = some (r, h') → W p l e (z_rm 6 139) s m args below meth c H locs 0 0 (MQ below (z_Q D dA B (some (.int r)) h') args s 0 0 (fun q => B ≤ q)) (F0 m 118 ls []) := by
  have hx := z_hx X
  have hb := z_hb X
  intro n
  induction n with
  | zero => intro v0 v1 h H locs ls hI hl hf; rw [f_Mod_run_118] at hf; cases hf
  | succ n ih =>
    intro v0 v1 h H locs ls hI hl hf
    rw [f_Mod_run_118] at hf
    refine lv_aload_n hx hb d_Mod_run_118 rfl (lv_at hl 0 rfl) ?_
    obtain ⟨x1, ex1, hf⟩ := z_bs hf
    refine z_getF X hI (k := 76) (ci := 12) (gI_s ex1) i_Mod rfl (by decide) wf_Mod_328 d_Mod_run_119 ?_
    refine lv_if_ne (tgt := 240) hx hb d_Mod_run_122 (by decide) (fun c2 => ?_) (fun c2 => ?_)
    · rw [if_neg c2] at hf
      refine lv_aload_n hx hb d_Mod_run_240 rfl (lv_at hl 0 rfl) ?_
      obtain ⟨x3, ex3, hf⟩ := z_bs hf
      refine z_getF X hI (k := 69) (ci := 12) (gI_s ex3) i_Mod rfl (by decide) wf_Mod_331 d_Mod_run_241 ?_
      cases hf
      exact z_iret X hI d_Mod_run_244
    · rw [if_pos c2] at hf
      refine lv_iload_n hx hb d_Mod_run_125 rfl (lv_at hl 1 rfl) ?_
      refine lv_aload_n hx hb d_Mod_run_126 rfl (lv_at hl 0 rfl) ?_
      obtain ⟨x4, ex4, hf⟩ := z_bs hf
      refine z_getF X hI (k := 24) (ci := 12) (gR_s ex4) i_Mod rfl (by decide) wf_Mod_69 d_Mod_run_127 ?_
      refine lv_aload_n hx hb d_Mod_run_130 rfl (lv_at hl 0 rfl) ?_
      obtain ⟨x5, ex5, hf⟩ := z_bs hf
      refine z_getF X hI (k := 7) (ci := 12) (gI_s ex5) i_Mod rfl (by decide) wf_Mod_284 d_Mod_run_131 ?_
      obtain ⟨x6, ex6, hf⟩ := z_bs hf
      refine z_iald X hI ex6 d_Mod_run_134 ?_
      refine lv_icmp_lt (tgt := 147) hx hb d_Mod_run_135 (by decide) (fun c7 => ?_) (fun c7 => ?_)
      · rw [if_pos c7] at hf
        refine lv_aload_n hx hb d_Mod_run_147 rfl (lv_at hl 0 rfl) ?_
        obtain ⟨x8, ex8, hf⟩ := z_bs hf
        refine z_getF X hI (k := 71) (ci := 12) (gI_s ex8) i_Mod rfl (by decide) wf_Mod_419 d_Mod_run_148 ?_
        refine lv_sipush (v := 200) hx hb d_Mod_run_151 (by decide) ?_
        refine lv_icmp_ne (tgt := 163) hx hb d_Mod_run_154 (by decide) (fun c9 => ?_) (fun c9 => ?_)
        · rw [if_neg c9] at hf
          refine lv_aload_n hx hb d_Mod_run_163 rfl (lv_at hl 0 rfl) ?_
          refine lv_dup hx hb d_Mod_run_164 rfl ?_
          obtain ⟨x10, ex10, hf⟩ := z_bs hf
          refine z_getF X hI (k := 71) (ci := 12) (gI_s ex10) i_Mod rfl (by decide) wf_Mod_419 d_Mod_run_165 ?_
          refine lv_iconst (v := 1) hx hb d_Mod_run_168 (by decide) ?_
          refine lv_iadd hx hb d_Mod_run_169 ?_
          obtain ⟨h11, eh11, hf⟩ := z_bs hf
          refine z_putF X hI (k := 71) (ci := 12) (ty0 := t_Mod) eh11 i_Mod t_Mod_ok n_Mod rfl (by decide) wf_Mod_419 rfl rfl rfl d_Mod_run_170 (fun H locs hI => ?_)
          refine lv_bipush (v := 40) hx hb d_Mod_run_173 (by decide) ?_
          refine lv_aload_n hx hb d_Mod_run_175 rfl (lv_at hl 0 rfl) ?_
          obtain ⟨x12, ex12, hf⟩ := z_bs hf
          refine z_getF X hI (k := 7) (ci := 12) (gI_s ex12) i_Mod rfl (by decide) wf_Mod_284 d_Mod_run_176 ?_
          refine lv_imul hx hb d_Mod_run_179 ?_
          refine lv_iload_n hx hb d_Mod_run_180 rfl (lv_at hl 1 rfl) ?_
          refine lv_iadd hx hb d_Mod_run_181 ?_
          obtain ⟨x13, ex13, hf⟩ := z_bs hf
          refine z_topi (Option.some.inj ex13) ?_
          refine lv_istore_n (lv' := [(2, .int x13), (0, .ref v0), (1, .int v1)]) hx hb d_Mod_run_182 rfl hl (by decide) rfl (fun ls hl => ?_)
          refine lv_aload_n hx hb d_Mod_run_183 rfl (lv_at hl 1 rfl) ?_
          refine lv_iload_n hx hb d_Mod_run_184 rfl (lv_at hl 0 rfl) ?_
          obtain ⟨u14, eu14, hf⟩ := z_bs hf
          obtain ⟨r15, er15, hf⟩ := z_bs hf
          refine z_callV (As := [.int x13]) (rest := []) (r := (some (.int r15.1))) (h' := r15.2) X hI eu14 (s_Mod_isDone er15) rfl rfl wm_Mod_422 yi_Mod_isDone rfl hl.1 rfl (Nat.le_of_ble_eq_true rfl) (by decide) (by decide) d_Mod_run_185 (fun H locs hI => ?_)
          refine W.eq (g2 := F0 m 188 ls [.int (r15.1)]) rfl ?_
          obtain ⟨x16, ex16, hf⟩ := z_bs hf
          refine z_topi (Option.some.inj ex16) ?_
          refine lv_istore_n (lv' := [(3, .int x16), (2, .int x13), (0, .ref v0), (1, .int v1)]) hx hb d_Mod_run_188 rfl hl (by decide) rfl (fun ls hl => ?_)
          refine lv_aload_n hx hb d_Mod_run_189 rfl (lv_at hl 2 rfl) ?_
          obtain ⟨x17, ex17, hf⟩ := z_bs hf
          refine z_getF X hI (k := 9) (ci := 12) (gR_s ex17) i_Mod rfl (by decide) wf_Mod_23 d_Mod_run_190 ?_
          refine lv_iload_n hx hb d_Mod_run_193 rfl (lv_at hl 1 rfl) ?_
          obtain ⟨x18, ex18, hf⟩ := z_bs hf
          refine z_iald X hI ex18 d_Mod_run_194 ?_
          refine lv_bipush (v := 123) hx hb d_Mod_run_195 (by decide) ?_
          refine lv_icmp_ne (tgt := 220) hx hb d_Mod_run_197 (by decide) (fun c19 => ?_) (fun c19 => ?_)
          · rw [if_neg c19] at hf
            refine lv_iload_n hx hb d_Mod_run_220 rfl (lv_at hl 0 rfl) ?_
            refine lv_if_eq (tgt := 233) hx hb d_Mod_run_221 (by decide) (fun c20 => ?_) (fun c20 => ?_)
            · rw [if_pos c20] at hf
              refine lv_iload_n hx hb d_Mod_run_233 rfl (lv_at hl 3 rfl) ?_
              refine lv_iconst (v := 1) hx hb d_Mod_run_234 (by decide) ?_
              refine lv_iadd hx hb d_Mod_run_235 ?_
              obtain ⟨x21, ex21, hf⟩ := z_bs hf
              refine z_topi (Option.some.inj ex21) ?_
              refine lv_istore_n (lv' := [(1, .int x21), (3, .int x16), (2, .int x13), (0, .ref v0)]) hx hb d_Mod_run_236 rfl hl (by decide) rfl (fun ls hl => ?_)
              refine lv_goto (tgt := 118) hx hb d_Mod_run_237 (by decide) ?_
              exact ih v0 x21 r15.2 _ _ _ hI (lv_sub hl [3, 0] rfl) hf
            · rw [if_neg c20] at hf
              refine lv_aload_n hx hb d_Mod_run_224 rfl (lv_at hl 2 rfl) ?_
              refine lv_iload_n hx hb d_Mod_run_225 rfl (lv_at hl 1 rfl) ?_
              refine lv_iload_n hx hb d_Mod_run_226 rfl (lv_at hl 3 rfl) ?_
              obtain ⟨u22, eu22, hf⟩ := z_bs hf
              obtain ⟨r23, er23, hf⟩ := z_bs hf
              refine z_callV (As := [.int x13, .int v1]) (rest := []) (r := (some (.int r23.1))) (h' := r23.2) X hI eu22 (s_Mod_perform er23) rfl rfl wm_Mod_425 yi_Mod_perform rfl hl.1 rfl (Nat.le_of_ble_eq_true rfl) (by decide) (by decide) d_Mod_run_227 (fun H locs hI => ?_)
              refine W.eq (g2 := F0 m 230 ls [.int (r23.1)]) rfl ?_
              refine lv_goto (tgt := 236) hx hb d_Mod_run_230 (by decide) ?_
              obtain ⟨x24, ex24, hf⟩ := z_bs hf
              refine z_topi (Option.some.inj ex24) ?_
              refine lv_istore_n (lv' := [(1, .int x24), (3, .int x16), (2, .int x13), (0, .ref v0)]) hx hb d_Mod_run_236 rfl hl (by decide) rfl (fun ls hl => ?_)
              refine lv_goto (tgt := 118) hx hb d_Mod_run_237 (by decide) ?_
              exact ih v0 x24 r23.2 _ _ _ hI (lv_sub hl [3, 0] rfl) hf
          · rw [if_pos c19] at hf
            refine lv_iload_n hx hb d_Mod_run_200 rfl (lv_at hl 0 rfl) ?_
            refine lv_if_eq (tgt := 210) hx hb d_Mod_run_201 (by decide) (fun c25 => ?_) (fun c25 => ?_)
            · rw [if_pos c25] at hf
              refine lv_aload_n hx hb d_Mod_run_210 rfl (lv_at hl 2 rfl) ?_
              obtain ⟨x26, ex26, hf⟩ := z_bs hf
              refine z_getF X hI (k := 18) (ci := 12) (gR_s ex26) i_Mod rfl (by decide) wf_Mod_50 d_Mod_run_211 ?_
              refine lv_iload_n hx hb d_Mod_run_214 rfl (lv_at hl 1 rfl) ?_
              obtain ⟨x27, ex27, hf⟩ := z_bs hf
              refine z_iald X hI ex27 d_Mod_run_215 ?_
              refine lv_istore_n (lv' := [(1, .int x27), (3, .int x16), (2, .int x13), (0, .ref v0)]) hx hb d_Mod_run_216 rfl hl (by decide) rfl (fun ls hl => ?_)
              refine lv_goto (tgt := 237) hx hb d_Mod_run_217 (by decide) ?_
              refine lv_goto (tgt := 118) hx hb d_Mod_run_237 (by decide) ?_
              exact ih v0 x27 r15.2 _ _ _ hI (lv_sub hl [3, 0] rfl) hf
            · rw [if_neg c25] at hf
              refine lv_iload_n hx hb d_Mod_run_204 rfl (lv_at hl 3 rfl) ?_
              refine lv_iconst (v := 1) hx hb d_Mod_run_205 (by decide) ?_
              refine lv_iadd hx hb d_Mod_run_206 ?_
              refine lv_goto (tgt := 216) hx hb d_Mod_run_207 (by decide) ?_
              obtain ⟨x28, ex28, hf⟩ := z_bs hf
              refine z_topi (Option.some.inj ex28) ?_
              refine lv_istore_n (lv' := [(1, .int x28), (3, .int x16), (2, .int x13), (0, .ref v0)]) hx hb d_Mod_run_216 rfl hl (by decide) rfl (fun ls hl => ?_)
              refine lv_goto (tgt := 237) hx hb d_Mod_run_217 (by decide) ?_
              refine lv_goto (tgt := 118) hx hb d_Mod_run_237 (by decide) ?_
              exact ih v0 x28 r15.2 _ _ _ hI (lv_sub hl [3, 0] rfl) hf
        · rw [if_pos c9] at hf
          refine lv_aload_n hx hb d_Mod_run_157 rfl (lv_at hl 0 rfl) ?_
          refine lv_iconst (v := 3) hx hb d_Mod_run_158 (by decide) ?_
          obtain ⟨u29, eu29, hf⟩ := z_bs hf
          obtain ⟨r30, er30, hf⟩ := z_bs hf
          refine z_callV (As := [.int 3]) (rest := []) (r := (some (.int r30.1))) (h' := r30.2) X hI eu29 (s_Mod_fail er30) rfl rfl wm_Mod_162 yi_Mod_fail rfl hl.1 rfl (Nat.le_of_ble_eq_true rfl) (by decide) (by decide) d_Mod_run_159 (fun H locs hI => ?_)
          refine W.eq (g2 := F0 m 162 ls [.int (r30.1)]) rfl ?_
          cases hf
          exact z_iret X hI d_Mod_run_162
      · rw [if_neg c7] at hf
        refine lv_aload_n hx hb d_Mod_run_138 rfl (lv_at hl 0 rfl) ?_
        refine lv_iconst (v := 1) hx hb d_Mod_run_139 (by decide) ?_
        obtain ⟨u31, eu31, hf⟩ := z_bs hf
        obtain ⟨r32, er32, hf⟩ := z_bs hf
        refine z_callV (As := [.int 1]) (rest := []) (r := (some (.int r32.1))) (h' := r32.2) X hI eu31 (s_Mod_endCycle er32) rfl rfl wm_Mod_390 yi_Mod_endCycle rfl hl.1 rfl (Nat.le_of_ble_eq_true rfl) (by decide) (by decide) d_Mod_run_140 (fun H locs hI => ?_)
        refine W.eq (g2 := F0 m 143 ls [.int (r32.1)]) rfl ?_
        obtain ⟨x33, ex33, hf⟩ := z_bs hf
        refine z_topi (Option.some.inj ex33) ?_
        refine lv_istore_n (lv' := [(1, .int x33), (0, .ref v0)]) hx hb d_Mod_run_143 rfl hl (by decide) rfl (fun ls hl => ?_)
        refine lv_goto (tgt := 118) hx hb d_Mod_run_144 (by decide) ?_
        exact ih v0 x33 r32.2 _ _ _ hI (lv_sub hl [1, 0] rfl) hf
def f_Mod_run_81 (N : Nat)  : Nat → Nat → Int32 → z_H → Option (Int32 × z_H)
  | 0, _, _, _ => none
  | n + 1, v0, v1, h =>
    if 40 ≤ v1 then
    (z_b (gI h v0 12 76) fun x2 =>
    if x2 = 0 then
    (z_b (gO h v0 12) fun u4 =>
    z_b (f_Mod_readLine N v0 h) fun r5 =>
    z_b (sF r5 v0 12 72 (.int 1)) fun h6 =>
    f_Mod_run_118 N N v0 0 h6)
    else
    (f_Mod_run_118 N N v0 0 h))
    else
    (z_b (gR h v0 12 64) fun x7 =>
    z_b (uI h x7 3 v1 (vp_nar .boolean 0)) fun h8 =>
    z_b (some (v1 + 1)) fun x9 =>
    (f_Mod_run_81 N  n) v0 x9 h8)
set_option maxRecDepth 20000 in
set_option maxHeartbeats 2000000 in
theorem s_Mod_run_81 (X : z_X p s m args meth c prog_14_method_65_code 4 (some .int) Ts "StreamForgeModel" D dA B) {N : Nat} {r : Int32} {h' : z_H}   : ∀ n : Nat, ∀ (v0 : Nat) (v1 : Int32) (h : z_H) (H : Heap) (locs : List Loc) (ls : Array Slot), z_I D dA B h s.heap H locs → lv_has ls 4 [(0, .ref v0), (1, .int v1)] → f_Mod_run_81 N  n v0 v1 h = some (r, h') → W p l e (z_rm 6 139) s m args below meth c H locs 0 0 (MQ below (z_Q D dA B (some (.int r)) h') args s 0 0 (fun q => B ≤ q)) (F0 m 81 ls []) := by
  have hx := z_hx X
  have hb := z_hb X
  intro n
  induction n with
  | zero => intro v0 v1 h H locs ls hI hl hf; rw [f_Mod_run_81] at hf; cases hf
  | succ n ih =>
    intro v0 v1 h H locs ls hI hl hf
    rw [f_Mod_run_81] at hf
    refine lv_iload_n hx hb d_Mod_run_81 rfl (lv_at hl 1 rfl) ?_
    refine lv_bipush (v := 40) hx hb d_Mod_run_82 (by decide) ?_
    refine lv_icmp_ge (tgt := 100) hx hb d_Mod_run_84 (by decide) (fun c1 => ?_) (fun c1 => ?_)
    · rw [if_pos c1] at hf
      refine lv_aload_n hx hb d_Mod_run_100 rfl (lv_at hl 0 rfl) ?_
      obtain ⟨x2, ex2, hf⟩ := z_bs hf
      refine z_getF X hI (k := 76) (ci := 12) (gI_s ex2) i_Mod rfl (by decide) wf_Mod_328 d_Mod_run_101 ?_
      refine lv_if_ne (tgt := 116) hx hb d_Mod_run_104 (by decide) (fun c3 => ?_) (fun c3 => ?_)
      · rw [if_neg c3] at hf
        refine lv_iconst (v := 0) hx hb d_Mod_run_116 (by decide) ?_
        refine lv_istore_n (lv' := [(1, .int 0), (0, .ref v0)]) hx hb d_Mod_run_117 rfl hl (by decide) rfl (fun ls hl => ?_)
        exact s_Mod_run_118 X  N v0 0 h _ _ _ hI (lv_sub hl [1, 0] rfl) hf
      · rw [if_pos c3] at hf
        refine lv_aload_n hx hb d_Mod_run_107 rfl (lv_at hl 0 rfl) ?_
        obtain ⟨u4, eu4, hf⟩ := z_bs hf
        obtain ⟨r5, er5, hf⟩ := z_bs hf
        refine z_callV (As := []) (rest := []) (r := none) (h' := r5) X hI eu4 (s_Mod_readLine er5) rfl rfl wm_Mod_384 yi_Mod_readLine rfl hl.1 rfl (Nat.le_of_ble_eq_true rfl) (by decide) (by decide) d_Mod_run_108 (fun H locs hI => ?_)
        refine W.eq (g2 := F0 m 111 ls []) rfl ?_
        refine lv_aload_n hx hb d_Mod_run_111 rfl (lv_at hl 0 rfl) ?_
        refine lv_iconst (v := 1) hx hb d_Mod_run_112 (by decide) ?_
        obtain ⟨h6, eh6, hf⟩ := z_bs hf
        refine z_putF X hI (k := 72) (ci := 12) (ty0 := t_Mod) eh6 i_Mod t_Mod_ok n_Mod rfl (by decide) wf_Mod_387 rfl rfl rfl d_Mod_run_113 (fun H locs hI => ?_)
        refine lv_iconst (v := 0) hx hb d_Mod_run_116 (by decide) ?_
        refine lv_istore_n (lv' := [(1, .int 0), (0, .ref v0)]) hx hb d_Mod_run_117 rfl hl (by decide) rfl (fun ls hl => ?_)
        exact s_Mod_run_118 X  N v0 0 h6 _ _ _ hI (lv_sub hl [1, 0] rfl) hf
    · rw [if_neg c1] at hf
      refine lv_aload_n hx hb d_Mod_run_87 rfl (lv_at hl 0 rfl) ?_
      obtain ⟨x7, ex7, hf⟩ := z_bs hf
      refine z_getF X hI (k := 64) (ci := 12) (gR_s ex7) i_Mod rfl (by decide) wf_Mod_148 d_Mod_run_88 ?_
      refine lv_iload_n hx hb d_Mod_run_91 rfl (lv_at hl 1 rfl) ?_
      refine lv_iconst (v := 0) hx hb d_Mod_run_92 (by decide) ?_
      obtain ⟨h8, eh8, hf⟩ := z_bs hf
      refine z_zast X hI eh8 d_Mod_run_93 (fun H locs hI => ?_)
      obtain ⟨x9, ex9, hf⟩ := z_bs hf
      refine lv_iinc (v := x9) (lv' := [(1, .int x9), (0, .ref v0)]) hx hb d_Mod_run_94 hl (k := 1) rfl (by rw [← Option.some.inj ex9]; rfl) (by decide) rfl (fun ls hl => ?_)
      refine lv_goto (tgt := 81) hx hb d_Mod_run_97 (by decide) ?_
      exact ih v0 x9 h8 _ _ _ hI (lv_sub hl [1, 0] rfl) hf
def f_Mod_run (N : Nat) (v0 : Nat) (h : z_H) : Option (Int32 × z_H) :=
  z_b (gI h v0 12 8) fun x1 =>
  if x1 = 0 then
  (z_b (gO h v0 12) fun u17 =>
  z_b (f_Mod_fail N v0 1 h) fun r18 =>
  some (r18.1, r18.2))
  else
  (z_b (sF h v0 12 6 (.int 0)) fun h3 =>
  z_b (sF h3 v0 12 65 (.int 0)) fun h4 =>
  z_b (sF h4 v0 12 66 (.int 0)) fun h5 =>
  z_b (sF h5 v0 12 68 (.int 0)) fun h6 =>
  z_b (sF h6 v0 12 69 (.int 0)) fun h7 =>
  z_b (sF h7 v0 12 70 (.int 0)) fun h8 =>
  z_b (sF h8 v0 12 71 (.int 0)) fun h9 =>
  z_b (sF h9 v0 12 72 (.int 0)) fun h10 =>
  z_b (sF h10 v0 12 73 (.int 0)) fun h11 =>
  z_b (sF h11 v0 12 74 (.int 0)) fun h12 =>
  z_b (gI h12 v0 12 4) fun x13 =>
  if x13 = 0 then
  (z_b (sF h12 v0 12 76 (.int 1)) fun h16 =>
  f_Mod_run_81 N N v0 0 h16)
  else
  (z_b (sF h12 v0 12 76 (.int 0)) fun h15 =>
  f_Mod_run_81 N N v0 0 h15))
set_option maxRecDepth 20000 in
set_option maxHeartbeats 2000000 in
theorem s_Mod_run {l : Launch} {D : va_G} {dA : Nat → ClassId} {B N : Nat} {v0 : Nat} {h h' : z_H} {r : Int32} (hf : f_Mod_run N v0 h = some (r, h')) : z_Met l y_Mod_run prog_14_method_65_code 4 (some .int) 6 139 D dA B [.ref v0] h (some (.int r)) h' := by
  refine z_of (by decide) (Nat.le_of_ble_eq_true rfl) (fun p e s m below meth c ls X hI hl => ?_)
  have hx := z_hx X
  have hb := z_hb X
  have hl : lv_has ls 4 [(0, .ref v0)] := hl
  unfold f_Mod_run at hf
  obtain ⟨locs, hlo⟩ : ∃ z : List Loc, z = [] := ⟨_, rfl⟩
  rw [← hlo] at hI ⊢
  refine lv_aload_n hx hb d_Mod_run_0 rfl (lv_at hl 0 rfl) ?_
  obtain ⟨x1, ex1, hf⟩ := z_bs hf
  refine z_getF X hI (k := 8) (ci := 12) (gI_s ex1) i_Mod rfl (by decide) wf_Mod_293 d_Mod_run_1 ?_
  refine lv_if_ne (tgt := 13) hx hb d_Mod_run_4 (by decide) (fun c2 => ?_) (fun c2 => ?_)
  · rw [if_neg c2] at hf
    refine lv_aload_n hx hb d_Mod_run_13 rfl (lv_at hl 0 rfl) ?_
    refine lv_iconst (v := 0) hx hb d_Mod_run_14 (by decide) ?_
    obtain ⟨h3, eh3, hf⟩ := z_bs hf
    refine z_putF X hI (k := 6) (ci := 12) (ty0 := t_Mod) eh3 i_Mod t_Mod_ok n_Mod rfl (by decide) wf_Mod_151 rfl rfl rfl d_Mod_run_15 (fun H locs hI => ?_)
    refine lv_aload_n hx hb d_Mod_run_18 rfl (lv_at hl 0 rfl) ?_
    refine lv_iconst (v := 0) hx hb d_Mod_run_19 (by decide) ?_
    obtain ⟨h4, eh4, hf⟩ := z_bs hf
    refine z_putF X hI (k := 65) (ci := 12) (ty0 := t_Mod) eh4 i_Mod t_Mod_ok n_Mod rfl (by decide) wf_Mod_319 rfl rfl rfl d_Mod_run_20 (fun H locs hI => ?_)
    refine lv_aload_n hx hb d_Mod_run_23 rfl (lv_at hl 0 rfl) ?_
    refine lv_iconst (v := 0) hx hb d_Mod_run_24 (by decide) ?_
    obtain ⟨h5, eh5, hf⟩ := z_bs hf
    refine z_putF X hI (k := 66) (ci := 12) (ty0 := t_Mod) eh5 i_Mod t_Mod_ok n_Mod rfl (by decide) wf_Mod_378 rfl rfl rfl d_Mod_run_25 (fun H locs hI => ?_)
    refine lv_aload_n hx hb d_Mod_run_28 rfl (lv_at hl 0 rfl) ?_
    refine lv_iconst (v := 0) hx hb d_Mod_run_29 (by decide) ?_
    obtain ⟨h6, eh6, hf⟩ := z_bs hf
    refine z_putF X hI (k := 68) (ci := 12) (ty0 := t_Mod) eh6 i_Mod t_Mod_ok n_Mod rfl (by decide) wf_Mod_343 rfl rfl rfl d_Mod_run_30 (fun H locs hI => ?_)
    refine lv_aload_n hx hb d_Mod_run_33 rfl (lv_at hl 0 rfl) ?_
    refine lv_iconst (v := 0) hx hb d_Mod_run_34 (by decide) ?_
    obtain ⟨h7, eh7, hf⟩ := z_bs hf
    refine z_putF X hI (k := 69) (ci := 12) (ty0 := t_Mod) eh7 i_Mod t_Mod_ok n_Mod rfl (by decide) wf_Mod_331 rfl rfl rfl d_Mod_run_35 (fun H locs hI => ?_)
    refine lv_aload_n hx hb d_Mod_run_38 rfl (lv_at hl 0 rfl) ?_
    refine lv_iconst (v := 0) hx hb d_Mod_run_39 (by decide) ?_
    obtain ⟨h8, eh8, hf⟩ := z_bs hf
    refine z_putF X hI (k := 70) (ci := 12) (ty0 := t_Mod) eh8 i_Mod t_Mod_ok n_Mod rfl (by decide) wf_Mod_346 rfl rfl rfl d_Mod_run_40 (fun H locs hI => ?_)
    refine lv_aload_n hx hb d_Mod_run_43 rfl (lv_at hl 0 rfl) ?_
    refine lv_iconst (v := 0) hx hb d_Mod_run_44 (by decide) ?_
    obtain ⟨h9, eh9, hf⟩ := z_bs hf
    refine z_putF X hI (k := 71) (ci := 12) (ty0 := t_Mod) eh9 i_Mod t_Mod_ok n_Mod rfl (by decide) wf_Mod_419 rfl rfl rfl d_Mod_run_45 (fun H locs hI => ?_)
    refine lv_aload_n hx hb d_Mod_run_48 rfl (lv_at hl 0 rfl) ?_
    refine lv_iconst (v := 0) hx hb d_Mod_run_49 (by decide) ?_
    obtain ⟨h10, eh10, hf⟩ := z_bs hf
    refine z_putF X hI (k := 72) (ci := 12) (ty0 := t_Mod) eh10 i_Mod t_Mod_ok n_Mod rfl (by decide) wf_Mod_387 rfl rfl rfl d_Mod_run_50 (fun H locs hI => ?_)
    refine lv_aload_n hx hb d_Mod_run_53 rfl (lv_at hl 0 rfl) ?_
    refine lv_iconst (v := 0) hx hb d_Mod_run_54 (by decide) ?_
    obtain ⟨h11, eh11, hf⟩ := z_bs hf
    refine z_putF X hI (k := 73) (ci := 12) (ty0 := t_Mod) eh11 i_Mod t_Mod_ok n_Mod rfl (by decide) wf_Mod_368 rfl rfl rfl d_Mod_run_55 (fun H locs hI => ?_)
    refine lv_aload_n hx hb d_Mod_run_58 rfl (lv_at hl 0 rfl) ?_
    refine lv_iconst (v := 0) hx hb d_Mod_run_59 (by decide) ?_
    obtain ⟨h12, eh12, hf⟩ := z_bs hf
    refine z_putF X hI (k := 74) (ci := 12) (ty0 := t_Mod) eh12 i_Mod t_Mod_ok n_Mod rfl (by decide) wf_Mod_371 rfl rfl rfl d_Mod_run_60 (fun H locs hI => ?_)
    refine lv_aload_n hx hb d_Mod_run_63 rfl (lv_at hl 0 rfl) ?_
    refine lv_aload_n hx hb d_Mod_run_64 rfl (lv_at hl 0 rfl) ?_
    obtain ⟨x13, ex13, hf⟩ := z_bs hf
    refine z_getF X hI (k := 4) (ci := 12) (gI_s ex13) i_Mod rfl (by decide) wf_Mod_169 d_Mod_run_65 ?_
    refine lv_if_ne (tgt := 75) hx hb d_Mod_run_68 (by decide) (fun c14 => ?_) (fun c14 => ?_)
    · rw [if_neg c14] at hf
      refine lv_iconst (v := 0) hx hb d_Mod_run_75 (by decide) ?_
      obtain ⟨h15, eh15, hf⟩ := z_bs hf
      refine z_putF X hI (k := 76) (ci := 12) (ty0 := t_Mod) eh15 i_Mod t_Mod_ok n_Mod rfl (by decide) wf_Mod_328 rfl rfl rfl d_Mod_run_76 (fun H locs hI => ?_)
      refine lv_iconst (v := 0) hx hb d_Mod_run_79 (by decide) ?_
      refine lv_istore_n (lv' := [(1, .int 0), (0, .ref v0)]) hx hb d_Mod_run_80 rfl hl (by decide) rfl (fun ls hl => ?_)
      exact s_Mod_run_81 X  N v0 0 h15 _ _ _ hI (lv_sub hl [1, 0] rfl) hf
    · rw [if_pos c14] at hf
      refine lv_iconst (v := 1) hx hb d_Mod_run_71 (by decide) ?_
      refine lv_goto (tgt := 76) hx hb d_Mod_run_72 (by decide) ?_
      obtain ⟨h16, eh16, hf⟩ := z_bs hf
      refine z_putF X hI (k := 76) (ci := 12) (ty0 := t_Mod) eh16 i_Mod t_Mod_ok n_Mod rfl (by decide) wf_Mod_328 rfl rfl rfl d_Mod_run_76 (fun H locs hI => ?_)
      refine lv_iconst (v := 0) hx hb d_Mod_run_79 (by decide) ?_
      refine lv_istore_n (lv' := [(1, .int 0), (0, .ref v0)]) hx hb d_Mod_run_80 rfl hl (by decide) rfl (fun ls hl => ?_)
      exact s_Mod_run_81 X  N v0 0 h16 _ _ _ hI (lv_sub hl [1, 0] rfl) hf
  · rw [if_pos c2] at hf
    refine lv_aload_n hx hb d_Mod_run_7 rfl (lv_at hl 0 rfl) ?_
    refine lv_iconst (v := 1) hx hb d_Mod_run_8 (by decide) ?_
    obtain ⟨u17, eu17, hf⟩ := z_bs hf
    obtain ⟨r18, er18, hf⟩ := z_bs hf
    refine z_callV (As := [.int 1]) (rest := []) (r := (some (.int r18.1))) (h' := r18.2) X hI eu17 (s_Mod_fail er18) rfl rfl wm_Mod_162 yi_Mod_fail rfl hl.1 rfl (Nat.le_of_ble_eq_true rfl) (by decide) (by decide) d_Mod_run_9 (fun H locs hI => ?_)
    refine W.eq (g2 := F0 m 12 ls [.int (r18.1)]) rfl ?_
    cases hf
    exact z_iret X hI d_Mod_run_12
def f_Mod_out_20 (N : Nat)  (v0 : Nat) (v1 : Int32) (s0 : Nat) (s1 : Int32) (h : z_H) : Option (Int32 × z_H) :=
  z_b (sF h s0 12 6 (.int s1)) fun h1 =>
  z_b (gI h1 v0 12 6) fun x2 =>
  if x2 ≤ 0 then
  (z_b (gR h1 v0 12 62) fun x4 =>
  z_b (aI h1 x4 0 v1) fun x5 =>
  some (x5, h1))
  else
  (some (0, h1))
set_option maxRecDepth 20000 in
set_option maxHeartbeats 2000000 in
theorem s_Mod_out_20 (X : z_X p s m args meth c prog_14_method_66_code 2 (some .int) Ts "StreamForgeModel" D dA B) {N : Nat} {r : Int32} {h' : z_H}   : ∀ (v0 : Nat) (v1 : Int32) (s0 : Nat) (s1 : Int32) (h : z_H) (H : Heap) (locs : List Loc) (ls : Array Slot), z_I D dA B h s.heap H locs → lv_has ls 2 [(0, .ref v0), (1, .int v1)] → f_Mod_out_20 N  v0 v1 s0 s1 h = some (r, h') → W p l e (z_rm 1 22) s m args below meth c H locs 0 0 (MQ below (z_Q D dA B (some (.int r)) h') args s 0 0 (fun q => B ≤ q)) (F0 m 20 ls [.int s1, .ref s0]) := by
  have hx := z_hx X
  have hb := z_hb X
  intro v0 v1 s0 s1 h H locs ls hI hl hf
  unfold f_Mod_out_20 at hf
  obtain ⟨h1, eh1, hf⟩ := z_bs hf
  refine z_putF X hI (k := 6) (ci := 12) (ty0 := t_Mod) eh1 i_Mod t_Mod_ok n_Mod rfl (by decide) wf_Mod_151 rfl rfl rfl d_Mod_out_20 (fun H locs hI => ?_)
  refine lv_aload_n hx hb d_Mod_out_23 rfl (lv_at hl 0 rfl) ?_
  obtain ⟨x2, ex2, hf⟩ := z_bs hf
  refine z_getF X hI (k := 6) (ci := 12) (gI_s ex2) i_Mod rfl (by decide) wf_Mod_151 d_Mod_out_24 ?_
  refine lv_if_le (tgt := 34) hx hb d_Mod_out_27 (by decide) (fun c3 => ?_) (fun c3 => ?_)
  · rw [if_pos c3] at hf
    refine lv_aload_n hx hb d_Mod_out_34 rfl (lv_at hl 0 rfl) ?_
    obtain ⟨x4, ex4, hf⟩ := z_bs hf
    refine z_getF X hI (k := 62) (ci := 12) (gR_s ex4) i_Mod rfl (by decide) wf_Mod_142 d_Mod_out_35 ?_
    refine lv_iload_n hx hb d_Mod_out_38 rfl (lv_at hl 1 rfl) ?_
    obtain ⟨x5, ex5, hf⟩ := z_bs hf
    refine z_iald X hI ex5 d_Mod_out_39 ?_
    cases hf
    exact z_iret X hI d_Mod_out_40
  · rw [if_neg c3] at hf
    refine lv_iconst (v := 0) hx hb d_Mod_out_30 (by decide) ?_
    refine lv_goto (tgt := 40) hx hb d_Mod_out_31 (by decide) ?_
    cases hf
    exact z_iret X hI d_Mod_out_40
def f_Mod_out (N : Nat) (v0 : Nat) (v1 : Int32) (h : z_H) : Option (Int32 × z_H) :=
  z_b (gI h v0 12 69) fun x1 =>
  z_b (f_Mod_in N v1 0 (x1 - 1) h) fun r2 =>
  if (r2.1) = 0 then
  (f_Mod_out_20 N v0 v1 v0 1 r2.2)
  else
  (f_Mod_out_20 N v0 v1 v0 0 r2.2)
set_option maxRecDepth 20000 in
set_option maxHeartbeats 2000000 in
theorem s_Mod_out {l : Launch} {D : va_G} {dA : Nat → ClassId} {B N : Nat} {v0 : Nat} {v1 : Int32} {h h' : z_H} {r : Int32} (hf : f_Mod_out N v0 v1 h = some (r, h')) : z_Met l y_Mod_out prog_14_method_66_code 2 (some .int) 1 22 D dA B [.ref v0, .int v1] h (some (.int r)) h' := by
  refine z_of (by decide) (Nat.le_of_ble_eq_true rfl) (fun p e s m below meth c ls X hI hl => ?_)
  have hx := z_hx X
  have hb := z_hb X
  have hl : lv_has ls 2 [(0, .ref v0), (1, .int v1)] := hl
  unfold f_Mod_out at hf
  obtain ⟨locs, hlo⟩ : ∃ z : List Loc, z = [] := ⟨_, rfl⟩
  rw [← hlo] at hI ⊢
  refine lv_aload_n hx hb d_Mod_out_0 rfl (lv_at hl 0 rfl) ?_
  refine lv_iload_n hx hb d_Mod_out_1 rfl (lv_at hl 1 rfl) ?_
  refine lv_iconst (v := 0) hx hb d_Mod_out_2 (by decide) ?_
  refine lv_aload_n hx hb d_Mod_out_3 rfl (lv_at hl 0 rfl) ?_
  obtain ⟨x1, ex1, hf⟩ := z_bs hf
  refine z_getF X hI (k := 69) (ci := 12) (gI_s ex1) i_Mod rfl (by decide) wf_Mod_331 d_Mod_out_4 ?_
  refine lv_iconst (v := 1) hx hb d_Mod_out_7 (by decide) ?_
  refine lv_isub hx hb d_Mod_out_8 ?_
  obtain ⟨r2, er2, hf⟩ := z_bs hf
  refine z_callS (As := [.int v1, .int 0, .int (x1 - 1)]) (rest := [.ref v0]) (r := (some (.int r2.1))) (h' := r2.2) X hI (s_Mod_in er2) rfl wm_Mod_154 yi_Mod_in rfl hl.1 rfl (Nat.le_of_ble_eq_true rfl) (by decide) (by decide) d_Mod_out_9 (fun H locs hI => ?_)
  refine W.eq (g2 := F0 m 12 ls [.int (r2.1), .ref v0]) rfl ?_
  refine lv_if_eq (tgt := 19) hx hb d_Mod_out_12 (by decide) (fun c3 => ?_) (fun c3 => ?_)
  · rw [if_pos c3] at hf
    refine lv_iconst (v := 1) hx hb d_Mod_out_19 (by decide) ?_
    exact s_Mod_out_20 X  v0 v1 v0 1 r2.2 _ _ _ hI (lv_sub hl [0, 1] rfl) hf
  · rw [if_neg c3] at hf
    refine lv_iconst (v := 0) hx hb d_Mod_out_15 (by decide) ?_
    refine lv_goto (tgt := 20) hx hb d_Mod_out_16 (by decide) ?_
    exact s_Mod_out_20 X  v0 v1 v0 0 r2.2 _ _ _ hI (lv_sub hl [0, 1] rfl) hf
def f_Mod_ran_38 (N : Nat)  (v0 : Nat) (v1 : Int32) (h : z_H) : Option (Int32 × z_H) :=
  z_b (sF h v0 12 6 (.int 0)) fun h1 =>
  if 5 ≤ v1 then
  (if 100 ≤ v1 then
  (z_b (gI h1 v0 12 66) fun x4 =>
  if x4 ≤ (v1 - 100) then
  (some ((-1), h1))
  else
  (z_b (gR h1 v0 12 59) fun x6 =>
  z_b (aI h1 x6 0 (v1 - 100)) fun x7 =>
  some (x7, h1)))
  else
  (z_b (gI h1 v0 12 65) fun x8 =>
  if x8 ≤ (v1 - 10) then
  (some ((-1), h1))
  else
  (z_b (gR h1 v0 12 58) fun x10 =>
  z_b (aI h1 x10 0 (v1 - 10)) fun x11 =>
  some (x11, h1))))
  else
  (if v1 = 0 then
  (z_b (gI h1 v0 12 69) fun x20 =>
  some (x20, h1))
  else
  (if v1 = 1 then
  (z_b (gI h1 v0 12 70) fun x19 =>
  some (x19, h1))
  else
  (if v1 = 2 then
  (z_b (gI h1 v0 12 71) fun x18 =>
  some (x18, h1))
  else
  (if v1 = 3 then
  (z_b (gI h1 v0 12 72) fun x17 =>
  some (x17, h1))
  else
  (z_b (gI h1 v0 12 73) fun x16 =>
  some (x16, h1))))))
set_option maxRecDepth 20000 in
set_option maxHeartbeats 2000000 in
theorem s_Mod_ran_38 (X : z_X p s m args meth c prog_14_method_67_code 2 (some .int) Ts "StreamForgeModel" D dA B) {N : Nat} {r : Int32} {h' : z_H}   : ∀ (v0 : Nat) (v1 : Int32) (h : z_H) (H : Heap) (locs : List Loc) (ls : Array Slot), z_I D dA B h s.heap H locs → lv_has ls 2 [(0, .ref v0), (1, .int v1)] → f_Mod_ran_38 N  v0 v1 h = some (r, h') → W p l e (z_rm 1 22) s m args below meth c H locs 0 0 (MQ below (z_Q D dA B (some (.int r)) h') args s 0 0 (fun q => B ≤ q)) (F0 m 38 ls []) := by
  have hx := z_hx X
  have hb := z_hb X
  intro v0 v1 h H locs ls hI hl hf
  unfold f_Mod_ran_38 at hf
  refine lv_aload_n hx hb d_Mod_ran_38 rfl (lv_at hl 0 rfl) ?_
  refine lv_iconst (v := 0) hx hb d_Mod_ran_39 (by decide) ?_
  obtain ⟨h1, eh1, hf⟩ := z_bs hf
  refine z_putF X hI (k := 6) (ci := 12) (ty0 := t_Mod) eh1 i_Mod t_Mod_ok n_Mod rfl (by decide) wf_Mod_151 rfl rfl rfl d_Mod_ran_40 (fun H locs hI => ?_)
  refine lv_iload_n hx hb d_Mod_ran_43 rfl (lv_at hl 1 rfl) ?_
  refine lv_iconst (v := 5) hx hb d_Mod_ran_44 (by decide) ?_
  refine lv_icmp_ge (tgt := 100) hx hb d_Mod_ran_45 (by decide) (fun c2 => ?_) (fun c2 => ?_)
  · rw [if_pos c2] at hf
    refine lv_iload_n hx hb d_Mod_ran_100 rfl (lv_at hl 1 rfl) ?_
    refine lv_bipush (v := 100) hx hb d_Mod_ran_101 (by decide) ?_
    refine lv_icmp_ge (tgt := 131) hx hb d_Mod_ran_103 (by decide) (fun c3 => ?_) (fun c3 => ?_)
    · rw [if_pos c3] at hf
      refine lv_iload_n hx hb d_Mod_ran_131 rfl (lv_at hl 1 rfl) ?_
      refine lv_bipush (v := 100) hx hb d_Mod_ran_132 (by decide) ?_
      refine lv_isub hx hb d_Mod_ran_134 ?_
      refine lv_aload_n hx hb d_Mod_ran_135 rfl (lv_at hl 0 rfl) ?_
      obtain ⟨x4, ex4, hf⟩ := z_bs hf
      refine z_getF X hI (k := 66) (ci := 12) (gI_s ex4) i_Mod rfl (by decide) wf_Mod_378 d_Mod_ran_136 ?_
      refine lv_icmp_ge (tgt := 154) hx hb d_Mod_ran_139 (by decide) (fun c5 => ?_) (fun c5 => ?_)
      · rw [if_pos c5] at hf
        refine lv_iconst (v := (-1)) hx hb d_Mod_ran_154 (by decide) ?_
        cases hf
        exact z_iret X hI d_Mod_ran_155
      · rw [if_neg c5] at hf
        refine lv_aload_n hx hb d_Mod_ran_142 rfl (lv_at hl 0 rfl) ?_
        obtain ⟨x6, ex6, hf⟩ := z_bs hf
        refine z_getF X hI (k := 59) (ci := 12) (gR_s ex6) i_Mod rfl (by decide) wf_Mod_133 d_Mod_ran_143 ?_
        refine lv_iload_n hx hb d_Mod_ran_146 rfl (lv_at hl 1 rfl) ?_
        refine lv_bipush (v := 100) hx hb d_Mod_ran_147 (by decide) ?_
        refine lv_isub hx hb d_Mod_ran_149 ?_
        obtain ⟨x7, ex7, hf⟩ := z_bs hf
        refine z_iald X hI ex7 d_Mod_ran_150 ?_
        refine lv_goto (tgt := 155) hx hb d_Mod_ran_151 (by decide) ?_
        cases hf
        exact z_iret X hI d_Mod_ran_155
    · rw [if_neg c3] at hf
      refine lv_iload_n hx hb d_Mod_ran_106 rfl (lv_at hl 1 rfl) ?_
      refine lv_bipush (v := 10) hx hb d_Mod_ran_107 (by decide) ?_
      refine lv_isub hx hb d_Mod_ran_109 ?_
      refine lv_aload_n hx hb d_Mod_ran_110 rfl (lv_at hl 0 rfl) ?_
      obtain ⟨x8, ex8, hf⟩ := z_bs hf
      refine z_getF X hI (k := 65) (ci := 12) (gI_s ex8) i_Mod rfl (by decide) wf_Mod_319 d_Mod_ran_111 ?_
      refine lv_icmp_ge (tgt := 129) hx hb d_Mod_ran_114 (by decide) (fun c9 => ?_) (fun c9 => ?_)
      · rw [if_pos c9] at hf
        refine lv_iconst (v := (-1)) hx hb d_Mod_ran_129 (by decide) ?_
        cases hf
        exact z_iret X hI d_Mod_ran_130
      · rw [if_neg c9] at hf
        refine lv_aload_n hx hb d_Mod_ran_117 rfl (lv_at hl 0 rfl) ?_
        obtain ⟨x10, ex10, hf⟩ := z_bs hf
        refine z_getF X hI (k := 58) (ci := 12) (gR_s ex10) i_Mod rfl (by decide) wf_Mod_130 d_Mod_ran_118 ?_
        refine lv_iload_n hx hb d_Mod_ran_121 rfl (lv_at hl 1 rfl) ?_
        refine lv_bipush (v := 10) hx hb d_Mod_ran_122 (by decide) ?_
        refine lv_isub hx hb d_Mod_ran_124 ?_
        obtain ⟨x11, ex11, hf⟩ := z_bs hf
        refine z_iald X hI ex11 d_Mod_ran_125 ?_
        refine lv_goto (tgt := 130) hx hb d_Mod_ran_126 (by decide) ?_
        cases hf
        exact z_iret X hI d_Mod_ran_130
  · rw [if_neg c2] at hf
    refine lv_iload_n hx hb d_Mod_ran_48 rfl (lv_at hl 1 rfl) ?_
    refine lv_if_ne (tgt := 59) hx hb d_Mod_ran_49 (by decide) (fun c12 => ?_) (fun c12 => ?_)
    · rw [if_neg c12] at hf
      refine lv_iload_n hx hb d_Mod_ran_59 rfl (lv_at hl 1 rfl) ?_
      refine lv_iconst (v := 1) hx hb d_Mod_ran_60 (by decide) ?_
      refine lv_icmp_ne (tgt := 71) hx hb d_Mod_ran_61 (by decide) (fun c13 => ?_) (fun c13 => ?_)
      · rw [if_neg c13] at hf
        refine lv_iload_n hx hb d_Mod_ran_71 rfl (lv_at hl 1 rfl) ?_
        refine lv_iconst (v := 2) hx hb d_Mod_ran_72 (by decide) ?_
        refine lv_icmp_ne (tgt := 83) hx hb d_Mod_ran_73 (by decide) (fun c14 => ?_) (fun c14 => ?_)
        · rw [if_neg c14] at hf
          refine lv_iload_n hx hb d_Mod_ran_83 rfl (lv_at hl 1 rfl) ?_
          refine lv_iconst (v := 3) hx hb d_Mod_ran_84 (by decide) ?_
          refine lv_icmp_ne (tgt := 95) hx hb d_Mod_ran_85 (by decide) (fun c15 => ?_) (fun c15 => ?_)
          · rw [if_neg c15] at hf
            refine lv_aload_n hx hb d_Mod_ran_95 rfl (lv_at hl 0 rfl) ?_
            obtain ⟨x16, ex16, hf⟩ := z_bs hf
            refine z_getF X hI (k := 73) (ci := 12) (gI_s ex16) i_Mod rfl (by decide) wf_Mod_368 d_Mod_ran_96 ?_
            cases hf
            exact z_iret X hI d_Mod_ran_99
          · rw [if_pos c15] at hf
            refine lv_aload_n hx hb d_Mod_ran_88 rfl (lv_at hl 0 rfl) ?_
            obtain ⟨x17, ex17, hf⟩ := z_bs hf
            refine z_getF X hI (k := 72) (ci := 12) (gI_s ex17) i_Mod rfl (by decide) wf_Mod_387 d_Mod_ran_89 ?_
            refine lv_goto (tgt := 99) hx hb d_Mod_ran_92 (by decide) ?_
            cases hf
            exact z_iret X hI d_Mod_ran_99
        · rw [if_pos c14] at hf
          refine lv_aload_n hx hb d_Mod_ran_76 rfl (lv_at hl 0 rfl) ?_
          obtain ⟨x18, ex18, hf⟩ := z_bs hf
          refine z_getF X hI (k := 71) (ci := 12) (gI_s ex18) i_Mod rfl (by decide) wf_Mod_419 d_Mod_ran_77 ?_
          refine lv_goto (tgt := 99) hx hb d_Mod_ran_80 (by decide) ?_
          cases hf
          exact z_iret X hI d_Mod_ran_99
      · rw [if_pos c13] at hf
        refine lv_aload_n hx hb d_Mod_ran_64 rfl (lv_at hl 0 rfl) ?_
        obtain ⟨x19, ex19, hf⟩ := z_bs hf
        refine z_getF X hI (k := 70) (ci := 12) (gI_s ex19) i_Mod rfl (by decide) wf_Mod_346 d_Mod_ran_65 ?_
        refine lv_goto (tgt := 99) hx hb d_Mod_ran_68 (by decide) ?_
        cases hf
        exact z_iret X hI d_Mod_ran_99
    · rw [if_pos c12] at hf
      refine lv_aload_n hx hb d_Mod_ran_52 rfl (lv_at hl 0 rfl) ?_
      obtain ⟨x20, ex20, hf⟩ := z_bs hf
      refine z_getF X hI (k := 69) (ci := 12) (gI_s ex20) i_Mod rfl (by decide) wf_Mod_331 d_Mod_ran_53 ?_
      refine lv_goto (tgt := 99) hx hb d_Mod_ran_56 (by decide) ?_
      cases hf
      exact z_iret X hI d_Mod_ran_99
def f_Mod_ran (N : Nat) (v0 : Nat) (v1 : Int32) (h : z_H) : Option (Int32 × z_H) :=
  z_b (f_Mod_in N v1 0 4 h) fun r1 =>
  if (r1.1) = 0 then
  (z_b (f_Mod_in N v1 10 69 r1.2) fun r3 =>
  if (r3.1) = 0 then
  (z_b (f_Mod_in N v1 100 159 r3.2) fun r5 =>
  if (r5.1) = 0 then
  (z_b (gO r5.2 v0 12) fun u7 =>
  z_b (f_Mod_fail N v0 1 r5.2) fun r8 =>
  some (r8.1, r8.2))
  else
  (f_Mod_ran_38 N v0 v1 r5.2))
  else
  (f_Mod_ran_38 N v0 v1 r3.2))
  else
  (f_Mod_ran_38 N v0 v1 r1.2)
set_option maxRecDepth 20000 in
set_option maxHeartbeats 2000000 in
theorem s_Mod_ran {l : Launch} {D : va_G} {dA : Nat → ClassId} {B N : Nat} {v0 : Nat} {v1 : Int32} {h h' : z_H} {r : Int32} (hf : f_Mod_ran N v0 v1 h = some (r, h')) : z_Met l y_Mod_ran prog_14_method_67_code 2 (some .int) 1 22 D dA B [.ref v0, .int v1] h (some (.int r)) h' := by
  refine z_of (by decide) (Nat.le_of_ble_eq_true rfl) (fun p e s m below meth c ls X hI hl => ?_)
  have hx := z_hx X
  have hb := z_hb X
  have hl : lv_has ls 2 [(0, .ref v0), (1, .int v1)] := hl
  unfold f_Mod_ran at hf
  obtain ⟨locs, hlo⟩ : ∃ z : List Loc, z = [] := ⟨_, rfl⟩
  rw [← hlo] at hI ⊢
  refine lv_iload_n hx hb d_Mod_ran_0 rfl (lv_at hl 1 rfl) ?_
  refine lv_iconst (v := 0) hx hb d_Mod_ran_1 (by decide) ?_
  refine lv_iconst (v := 4) hx hb d_Mod_ran_2 (by decide) ?_
  obtain ⟨r1, er1, hf⟩ := z_bs hf
  refine z_callS (As := [.int v1, .int 0, .int 4]) (rest := []) (r := (some (.int r1.1))) (h' := r1.2) X hI (s_Mod_in er1) rfl wm_Mod_154 yi_Mod_in rfl hl.1 rfl (Nat.le_of_ble_eq_true rfl) (by decide) (by decide) d_Mod_ran_3 (fun H locs hI => ?_)
  refine W.eq (g2 := F0 m 6 ls [.int (r1.1)]) rfl ?_
  refine lv_if_ne (tgt := 38) hx hb d_Mod_ran_6 (by decide) (fun c2 => ?_) (fun c2 => ?_)
  · rw [if_neg c2] at hf
    exact s_Mod_ran_38 X  v0 v1 r1.2 _ _ _ hI (lv_sub hl [0, 1] rfl) hf
  · rw [if_pos c2] at hf
    refine lv_iload_n hx hb d_Mod_ran_9 rfl (lv_at hl 1 rfl) ?_
    refine lv_bipush (v := 10) hx hb d_Mod_ran_10 (by decide) ?_
    refine lv_bipush (v := 69) hx hb d_Mod_ran_12 (by decide) ?_
    obtain ⟨r3, er3, hf⟩ := z_bs hf
    refine z_callS (As := [.int v1, .int 10, .int 69]) (rest := []) (r := (some (.int r3.1))) (h' := r3.2) X hI (s_Mod_in er3) rfl wm_Mod_154 yi_Mod_in rfl hl.1 rfl (Nat.le_of_ble_eq_true rfl) (by decide) (by decide) d_Mod_ran_14 (fun H locs hI => ?_)
    refine W.eq (g2 := F0 m 17 ls [.int (r3.1)]) rfl ?_
    refine lv_if_ne (tgt := 38) hx hb d_Mod_ran_17 (by decide) (fun c4 => ?_) (fun c4 => ?_)
    · rw [if_neg c4] at hf
      exact s_Mod_ran_38 X  v0 v1 r3.2 _ _ _ hI (lv_sub hl [0, 1] rfl) hf
    · rw [if_pos c4] at hf
      refine lv_iload_n hx hb d_Mod_ran_20 rfl (lv_at hl 1 rfl) ?_
      refine lv_bipush (v := 100) hx hb d_Mod_ran_21 (by decide) ?_
      refine lv_sipush (v := 159) hx hb d_Mod_ran_23 (by decide) ?_
      obtain ⟨r5, er5, hf⟩ := z_bs hf
      refine z_callS (As := [.int v1, .int 100, .int 159]) (rest := []) (r := (some (.int r5.1))) (h' := r5.2) X hI (s_Mod_in er5) rfl wm_Mod_154 yi_Mod_in rfl hl.1 rfl (Nat.le_of_ble_eq_true rfl) (by decide) (by decide) d_Mod_ran_26 (fun H locs hI => ?_)
      refine W.eq (g2 := F0 m 29 ls [.int (r5.1)]) rfl ?_
      refine lv_if_ne (tgt := 38) hx hb d_Mod_ran_29 (by decide) (fun c6 => ?_) (fun c6 => ?_)
      · rw [if_neg c6] at hf
        exact s_Mod_ran_38 X  v0 v1 r5.2 _ _ _ hI (lv_sub hl [0, 1] rfl) hf
      · rw [if_pos c6] at hf
        refine lv_aload_n hx hb d_Mod_ran_32 rfl (lv_at hl 0 rfl) ?_
        refine lv_iconst (v := 1) hx hb d_Mod_ran_33 (by decide) ?_
        obtain ⟨u7, eu7, hf⟩ := z_bs hf
        obtain ⟨r8, er8, hf⟩ := z_bs hf
        refine z_callV (As := [.int 1]) (rest := []) (r := (some (.int r8.1))) (h' := r8.2) X hI eu7 (s_Mod_fail er8) rfl rfl wm_Mod_162 yi_Mod_fail rfl hl.1 rfl (Nat.le_of_ble_eq_true rfl) (by decide) (by decide) d_Mod_ran_34 (fun H locs hI => ?_)
        refine W.eq (g2 := F0 m 37 ls [.int (r8.1)]) rfl ?_
        cases hf
        exact z_iret X hI d_Mod_ran_37
def f_Mod_count_26 (N : Nat)  (v0 : Nat) (v1 : Int32) (h : z_H) : Option (Int32 × z_H) :=
  z_b (sF h v0 12 6 (.int 0)) fun h1 =>
  if v1 ≤ 2 then
  (if v1 = 0 then
  (z_b (gI h1 v0 12 3) fun x11 =>
  some (x11, h1))
  else
  (if v1 = 1 then
  (z_b (gI h1 v0 12 4) fun x10 =>
  some (x10, h1))
  else
  (z_b (gI h1 v0 12 8) fun x5 =>
  if x5 = 0 then
  (some (0, h1))
  else
  (z_b (gR h1 v0 12 24) fun x7 =>
  z_b (gI h1 v0 12 7) fun x8 =>
  z_b (aI h1 x7 0 x8) fun x9 =>
  some (x9, h1)))))
  else
  (z_b (gI h1 v0 12 4) fun x12 =>
  if x12 ≤ (v1 - 10) then
  (some (0, h1))
  else
  (z_b (gR h1 v0 12 1) fun x14 =>
  z_b (aI h1 x14 0 (v1 - 10)) fun x15 =>
  some (x15, h1)))
set_option maxRecDepth 20000 in
set_option maxHeartbeats 2000000 in
theorem s_Mod_count_26 (X : z_X p s m args meth c prog_14_method_68_code 2 (some .int) Ts "StreamForgeModel" D dA B) {N : Nat} {r : Int32} {h' : z_H}   : ∀ (v0 : Nat) (v1 : Int32) (h : z_H) (H : Heap) (locs : List Loc) (ls : Array Slot), z_I D dA B h s.heap H locs → lv_has ls 2 [(0, .ref v0), (1, .int v1)] → f_Mod_count_26 N  v0 v1 h = some (r, h') → W p l e (z_rm 1 22) s m args below meth c H locs 0 0 (MQ below (z_Q D dA B (some (.int r)) h') args s 0 0 (fun q => B ≤ q)) (F0 m 26 ls []) := by
  have hx := z_hx X
  have hb := z_hb X
  intro v0 v1 h H locs ls hI hl hf
  unfold f_Mod_count_26 at hf
  refine lv_aload_n hx hb d_Mod_count_26 rfl (lv_at hl 0 rfl) ?_
  refine lv_iconst (v := 0) hx hb d_Mod_count_27 (by decide) ?_
  obtain ⟨h1, eh1, hf⟩ := z_bs hf
  refine z_putF X hI (k := 6) (ci := 12) (ty0 := t_Mod) eh1 i_Mod t_Mod_ok n_Mod rfl (by decide) wf_Mod_151 rfl rfl rfl d_Mod_count_28 (fun H locs hI => ?_)
  refine lv_iload_n hx hb d_Mod_count_31 rfl (lv_at hl 1 rfl) ?_
  refine lv_iconst (v := 2) hx hb d_Mod_count_32 (by decide) ?_
  refine lv_icmp_le (tgt := 61) hx hb d_Mod_count_33 (by decide) (fun c2 => ?_) (fun c2 => ?_)
  · rw [if_pos c2] at hf
    refine lv_iload_n hx hb d_Mod_count_61 rfl (lv_at hl 1 rfl) ?_
    refine lv_if_ne (tgt := 72) hx hb d_Mod_count_62 (by decide) (fun c3 => ?_) (fun c3 => ?_)
    · rw [if_neg c3] at hf
      refine lv_iload_n hx hb d_Mod_count_72 rfl (lv_at hl 1 rfl) ?_
      refine lv_iconst (v := 1) hx hb d_Mod_count_73 (by decide) ?_
      refine lv_icmp_ne (tgt := 84) hx hb d_Mod_count_74 (by decide) (fun c4 => ?_) (fun c4 => ?_)
      · rw [if_neg c4] at hf
        refine lv_aload_n hx hb d_Mod_count_84 rfl (lv_at hl 0 rfl) ?_
        obtain ⟨x5, ex5, hf⟩ := z_bs hf
        refine z_getF X hI (k := 8) (ci := 12) (gI_s ex5) i_Mod rfl (by decide) wf_Mod_293 d_Mod_count_85 ?_
        refine lv_if_eq (tgt := 103) hx hb d_Mod_count_88 (by decide) (fun c6 => ?_) (fun c6 => ?_)
        · rw [if_pos c6] at hf
          refine lv_iconst (v := 0) hx hb d_Mod_count_103 (by decide) ?_
          cases hf
          exact z_iret X hI d_Mod_count_104
        · rw [if_neg c6] at hf
          refine lv_aload_n hx hb d_Mod_count_91 rfl (lv_at hl 0 rfl) ?_
          obtain ⟨x7, ex7, hf⟩ := z_bs hf
          refine z_getF X hI (k := 24) (ci := 12) (gR_s ex7) i_Mod rfl (by decide) wf_Mod_69 d_Mod_count_92 ?_
          refine lv_aload_n hx hb d_Mod_count_95 rfl (lv_at hl 0 rfl) ?_
          obtain ⟨x8, ex8, hf⟩ := z_bs hf
          refine z_getF X hI (k := 7) (ci := 12) (gI_s ex8) i_Mod rfl (by decide) wf_Mod_284 d_Mod_count_96 ?_
          obtain ⟨x9, ex9, hf⟩ := z_bs hf
          refine z_iald X hI ex9 d_Mod_count_99 ?_
          refine lv_goto (tgt := 104) hx hb d_Mod_count_100 (by decide) ?_
          cases hf
          exact z_iret X hI d_Mod_count_104
      · rw [if_pos c4] at hf
        refine lv_aload_n hx hb d_Mod_count_77 rfl (lv_at hl 0 rfl) ?_
        obtain ⟨x10, ex10, hf⟩ := z_bs hf
        refine z_getF X hI (k := 4) (ci := 12) (gI_s ex10) i_Mod rfl (by decide) wf_Mod_169 d_Mod_count_78 ?_
        refine lv_goto (tgt := 104) hx hb d_Mod_count_81 (by decide) ?_
        cases hf
        exact z_iret X hI d_Mod_count_104
    · rw [if_pos c3] at hf
      refine lv_aload_n hx hb d_Mod_count_65 rfl (lv_at hl 0 rfl) ?_
      obtain ⟨x11, ex11, hf⟩ := z_bs hf
      refine z_getF X hI (k := 3) (ci := 12) (gI_s ex11) i_Mod rfl (by decide) wf_Mod_166 d_Mod_count_66 ?_
      refine lv_goto (tgt := 104) hx hb d_Mod_count_69 (by decide) ?_
      cases hf
      exact z_iret X hI d_Mod_count_104
  · rw [if_neg c2] at hf
    refine lv_iload_n hx hb d_Mod_count_36 rfl (lv_at hl 1 rfl) ?_
    refine lv_bipush (v := 10) hx hb d_Mod_count_37 (by decide) ?_
    refine lv_isub hx hb d_Mod_count_39 ?_
    refine lv_aload_n hx hb d_Mod_count_40 rfl (lv_at hl 0 rfl) ?_
    obtain ⟨x12, ex12, hf⟩ := z_bs hf
    refine z_getF X hI (k := 4) (ci := 12) (gI_s ex12) i_Mod rfl (by decide) wf_Mod_169 d_Mod_count_41 ?_
    refine lv_icmp_ge (tgt := 59) hx hb d_Mod_count_44 (by decide) (fun c13 => ?_) (fun c13 => ?_)
    · rw [if_pos c13] at hf
      refine lv_iconst (v := 0) hx hb d_Mod_count_59 (by decide) ?_
      cases hf
      exact z_iret X hI d_Mod_count_60
    · rw [if_neg c13] at hf
      refine lv_aload_n hx hb d_Mod_count_47 rfl (lv_at hl 0 rfl) ?_
      obtain ⟨x14, ex14, hf⟩ := z_bs hf
      refine z_getF X hI (k := 1) (ci := 12) (gR_s ex14) i_Mod rfl (by decide) wf_Mod_13 d_Mod_count_48 ?_
      refine lv_iload_n hx hb d_Mod_count_51 rfl (lv_at hl 1 rfl) ?_
      refine lv_bipush (v := 10) hx hb d_Mod_count_52 (by decide) ?_
      refine lv_isub hx hb d_Mod_count_54 ?_
      obtain ⟨x15, ex15, hf⟩ := z_bs hf
      refine z_iald X hI ex15 d_Mod_count_55 ?_
      refine lv_goto (tgt := 60) hx hb d_Mod_count_56 (by decide) ?_
      cases hf
      exact z_iret X hI d_Mod_count_60
def f_Mod_count (N : Nat) (v0 : Nat) (v1 : Int32) (h : z_H) : Option (Int32 × z_H) :=
  z_b (f_Mod_in N v1 0 2 h) fun r1 =>
  if (r1.1) = 0 then
  (z_b (f_Mod_in N v1 10 21 r1.2) fun r3 =>
  if (r3.1) = 0 then
  (z_b (gO r3.2 v0 12) fun u5 =>
  z_b (f_Mod_fail N v0 1 r3.2) fun r6 =>
  some (r6.1, r6.2))
  else
  (f_Mod_count_26 N v0 v1 r3.2))
  else
  (f_Mod_count_26 N v0 v1 r1.2)
set_option maxRecDepth 20000 in
set_option maxHeartbeats 2000000 in
theorem s_Mod_count {l : Launch} {D : va_G} {dA : Nat → ClassId} {B N : Nat} {v0 : Nat} {v1 : Int32} {h h' : z_H} {r : Int32} (hf : f_Mod_count N v0 v1 h = some (r, h')) : z_Met l y_Mod_count prog_14_method_68_code 2 (some .int) 1 22 D dA B [.ref v0, .int v1] h (some (.int r)) h' := by
  refine z_of (by decide) (Nat.le_of_ble_eq_true rfl) (fun p e s m below meth c ls X hI hl => ?_)
  have hx := z_hx X
  have hb := z_hb X
  have hl : lv_has ls 2 [(0, .ref v0), (1, .int v1)] := hl
  unfold f_Mod_count at hf
  obtain ⟨locs, hlo⟩ : ∃ z : List Loc, z = [] := ⟨_, rfl⟩
  rw [← hlo] at hI ⊢
  refine lv_iload_n hx hb d_Mod_count_0 rfl (lv_at hl 1 rfl) ?_
  refine lv_iconst (v := 0) hx hb d_Mod_count_1 (by decide) ?_
  refine lv_iconst (v := 2) hx hb d_Mod_count_2 (by decide) ?_
  obtain ⟨r1, er1, hf⟩ := z_bs hf
  refine z_callS (As := [.int v1, .int 0, .int 2]) (rest := []) (r := (some (.int r1.1))) (h' := r1.2) X hI (s_Mod_in er1) rfl wm_Mod_154 yi_Mod_in rfl hl.1 rfl (Nat.le_of_ble_eq_true rfl) (by decide) (by decide) d_Mod_count_3 (fun H locs hI => ?_)
  refine W.eq (g2 := F0 m 6 ls [.int (r1.1)]) rfl ?_
  refine lv_if_ne (tgt := 26) hx hb d_Mod_count_6 (by decide) (fun c2 => ?_) (fun c2 => ?_)
  · rw [if_neg c2] at hf
    exact s_Mod_count_26 X  v0 v1 r1.2 _ _ _ hI (lv_sub hl [0, 1] rfl) hf
  · rw [if_pos c2] at hf
    refine lv_iload_n hx hb d_Mod_count_9 rfl (lv_at hl 1 rfl) ?_
    refine lv_bipush (v := 10) hx hb d_Mod_count_10 (by decide) ?_
    refine lv_bipush (v := 21) hx hb d_Mod_count_12 (by decide) ?_
    obtain ⟨r3, er3, hf⟩ := z_bs hf
    refine z_callS (As := [.int v1, .int 10, .int 21]) (rest := []) (r := (some (.int r3.1))) (h' := r3.2) X hI (s_Mod_in er3) rfl wm_Mod_154 yi_Mod_in rfl hl.1 rfl (Nat.le_of_ble_eq_true rfl) (by decide) (by decide) d_Mod_count_14 (fun H locs hI => ?_)
    refine W.eq (g2 := F0 m 17 ls [.int (r3.1)]) rfl ?_
    refine lv_if_ne (tgt := 26) hx hb d_Mod_count_17 (by decide) (fun c4 => ?_) (fun c4 => ?_)
    · rw [if_neg c4] at hf
      exact s_Mod_count_26 X  v0 v1 r3.2 _ _ _ hI (lv_sub hl [0, 1] rfl) hf
    · rw [if_pos c4] at hf
      refine lv_aload_n hx hb d_Mod_count_20 rfl (lv_at hl 0 rfl) ?_
      refine lv_iconst (v := 1) hx hb d_Mod_count_21 (by decide) ?_
      obtain ⟨u5, eu5, hf⟩ := z_bs hf
      obtain ⟨r6, er6, hf⟩ := z_bs hf
      refine z_callV (As := [.int 1]) (rest := []) (r := (some (.int r6.1))) (h' := r6.2) X hI eu5 (s_Mod_fail er6) rfl rfl wm_Mod_162 yi_Mod_fail rfl hl.1 rfl (Nat.le_of_ble_eq_true rfl) (by decide) (by decide) d_Mod_count_22 (fun H locs hI => ?_)
      refine W.eq (g2 := F0 m 25 ls [.int (r6.1)]) rfl ?_
      cases hf
      exact z_iret X hI d_Mod_count_25
end
