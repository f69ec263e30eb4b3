section
variable {p : Program} {l : Launch} {e : Env} {s : State} {m : MethodId} {args : Array Value} {below : List Frame} {meth : Method} {c : Code} {Ts : List Cond} {own : String} {D : va_G} {dA : Nat → ClassId} {B : Nat}
def f_Ma_standsAgain_36 (N : Nat)  : Nat → Nat → Int32 → Int32 → Int32 → Int32 → z_H → Option (Int32 × z_H)
  | 0, _, _, _, _, _, _ => none
  | n + 1, v0, v2, v3, v4, v5, h =>
    if v4 ≤ v5 then
    (some (1, h))
    else
    (z_b (gR h v0 5 4) fun x2 =>
    z_b (gR h x2 10 0) fun x3 =>
    z_b (aI h x3 1 (v3 + v5)) fun x4 =>
    z_b (gR h v0 5 4) fun x5 =>
    z_b (gR h x5 10 0) fun x6 =>
    z_b (aI h x6 1 (v2 + v5)) fun x7 =>
    if x4 = x7 then
    (z_b (some (v5 + 1)) fun x9 =>
    (f_Ma_standsAgain_36 N  n) v0 v2 v3 v4 x9 h)
    else
    (some (0, h)))
set_option maxRecDepth 20000 in
set_option maxHeartbeats 2000000 in
theorem s_Ma_standsAgain_36 (X : z_X p s m args meth c prog_7_method_10_code 6 (some .boolean) Ts "StreamForge$Matcher" D dA B) {N : Nat} {r : Int32} {h' : z_H}   : ∀ n : Nat, ∀ (v0 : Nat) (v2 : Int32) (v3 : Int32) (v4 : Int32) (v5 : Int32) (h : z_H) (H : Heap) (locs : List Loc) (ls : Array Slot), z_I D dA B h s.heap H locs → lv_has ls 6 [(0, .ref v0), (2, .int v2), (3, .int v3), (4, .int v4), (5, .int v5)] → f_Ma_standsAgain_36 N  n v0 v2 v3 v4 v5 h = some (r, h') → W p l e (z_rm 0 0) s m args below meth c H locs 0 0 (MQ below (z_Q D dA B (some (.int r)) h') args s 0 0 (fun q => B ≤ q)) (F0 m 36 ls []) := by
  have hx := z_hx X
  have hb := z_hb X
  intro n
  induction n with
  | zero => intro v0 v2 v3 v4 v5 h H locs ls hI hl hf; rw [f_Ma_standsAgain_36] at hf; cases hf
  | succ n ih =>
    intro v0 v2 v3 v4 v5 h H locs ls hI hl hf
    rw [f_Ma_standsAgain_36] at hf
    refine lv_iload hx hb d_Ma_standsAgain_36 (lv_at hl 4 rfl) ?_
    refine lv_iload hx hb d_Ma_standsAgain_38 (lv_at hl 3 rfl) ?_
    refine lv_icmp_ge (tgt := 78) hx hb d_Ma_standsAgain_40 (by decide) (fun c1 => ?_) (fun c1 => ?_)
    · rw [if_pos c1] at hf
      refine lv_iconst (v := 1) hx hb d_Ma_standsAgain_78 (by decide) ?_
      cases hf
      exact z_zret X hI (Or.inr rfl) d_Ma_standsAgain_79
    · rw [if_neg c1] at hf
      refine lv_aload_n hx hb d_Ma_standsAgain_43 rfl (lv_at hl 0 rfl) ?_
      obtain ⟨x2, ex2, hf⟩ := z_bs hf
      refine z_getF X hI (k := 4) (ci := 5) (gR_s ex2) i_Ma rfl (by decide) wf_Ma_32 d_Ma_standsAgain_44 ?_
      obtain ⟨x3, ex3, hf⟩ := z_bs hf
      refine z_getF X hI (k := 0) (ci := 10) (gR_s ex3) i_Row rfl (by decide) wf_Ma_88 d_Ma_standsAgain_47 ?_
      refine lv_iload_n hx hb d_Ma_standsAgain_50 rfl (lv_at hl 2 rfl) ?_
      refine lv_iload hx hb d_Ma_standsAgain_51 (lv_at hl 4 rfl) ?_
      refine lv_iadd hx hb d_Ma_standsAgain_53 ?_
      obtain ⟨x4, ex4, hf⟩ := z_bs hf
      refine z_cald X hI ex4 d_Ma_standsAgain_54 ?_
      refine lv_aload_n hx hb d_Ma_standsAgain_55 rfl (lv_at hl 0 rfl) ?_
      obtain ⟨x5, ex5, hf⟩ := z_bs hf
      refine z_getF X hI (k := 4) (ci := 5) (gR_s ex5) i_Ma rfl (by decide) wf_Ma_32 d_Ma_standsAgain_56 ?_
      obtain ⟨x6, ex6, hf⟩ := z_bs hf
      refine z_getF X hI (k := 0) (ci := 10) (gR_s ex6) i_Row rfl (by decide) wf_Ma_88 d_Ma_standsAgain_59 ?_
      refine lv_iload_n hx hb d_Ma_standsAgain_62 rfl (lv_at hl 1 rfl) ?_
      refine lv_iload hx hb d_Ma_standsAgain_63 (lv_at hl 4 rfl) ?_
      refine lv_iadd hx hb d_Ma_standsAgain_65 ?_
      obtain ⟨x7, ex7, hf⟩ := z_bs hf
      refine z_cald X hI ex7 d_Ma_standsAgain_66 ?_
      refine lv_icmp_eq (tgt := 72) hx hb d_Ma_standsAgain_67 (by decide) (fun c8 => ?_) (fun c8 => ?_)
      · rw [if_pos c8] at hf
        obtain ⟨x9, ex9, hf⟩ := z_bs hf
        refine lv_iinc (v := x9) (lv' := [(5, .int x9), (0, .ref v0), (2, .int v2), (3, .int v3), (4, .int v4)]) hx hb d_Ma_standsAgain_72 hl (k := 4) rfl (by rw [← Option.some.inj ex9]; rfl) (by decide) rfl (fun ls hl => ?_)
        refine lv_goto (tgt := 36) hx hb d_Ma_standsAgain_75 (by decide) ?_
        exact ih v0 v2 v3 v4 x9 h _ _ _ hI (lv_sub hl [1, 2, 3, 4, 0] rfl) hf
      · rw [if_neg c8] at hf
        refine lv_iconst (v := 0) hx hb d_Ma_standsAgain_70 (by decide) ?_
        cases hf
        exact z_zret X hI (Or.inl rfl) d_Ma_standsAgain_71
def f_Ma_standsAgain (N : Nat) (v0 : Nat) (v1 : Int32) (v2 : Int32) (h : z_H) : Option (Int32 × z_H) :=
  z_b (gR h v0 5 7) fun x1 =>
  z_b (aI h x1 0 v1) fun x2 =>
  z_b (gR h v0 5 8) fun x3 =>
  z_b (aI h x3 0 v1) fun x4 =>
  z_b (some (x4 - x2)) fun x5 =>
  z_b (gR h v0 5 4) fun x6 =>
  z_b (gI h x6 10 1) fun x7 =>
  if x5 ≤ (x7 - v2) then
  (f_Ma_standsAgain_36 N N v0 v2 x2 x5 0 h)
  else
  (some (0, h))
set_option maxRecDepth 20000 in
set_option maxHeartbeats 2000000 in
theorem s_Ma_standsAgain {l : Launch} {D : va_G} {dA : Nat → ClassId} {B N : Nat} {v0 : Nat} {v1 : Int32} {v2 : Int32} {h h' : z_H} {r : Int32} (hf : f_Ma_standsAgain N v0 v1 v2 h = some (r, h')) : z_Met l y_Ma_standsAgain prog_7_method_10_code 6 (some .boolean) 0 0 D dA B [.ref v0, .int v1, .int v2] h (some (.int r)) h' := by
  refine z_of (by decide) (Nat.le_of_ble_eq_true rfl) (fun p e s m below meth c ls X hI hl => ?_)
  have hx := z_hx X
  have hb := z_hb X
  have hl : lv_has ls 6 [(0, .ref v0), (1, .int v1), (2, .int v2)] := hl
  unfold f_Ma_standsAgain at hf
  obtain ⟨locs, hlo⟩ : ∃ z : List Loc, z = [] := ⟨_, rfl⟩
  rw [← hlo] at hI ⊢
  refine lv_aload_n hx hb d_Ma_standsAgain_0 rfl (lv_at hl 0 rfl) ?_
  obtain ⟨x1, ex1, hf⟩ := z_bs hf
  refine z_getF X hI (k := 7) (ci := 5) (gR_s ex1) i_Ma rfl (by decide) wf_Ma_18 d_Ma_standsAgain_1 ?_
  refine lv_iload_n hx hb d_Ma_standsAgain_4 rfl (lv_at hl 1 rfl) ?_
  obtain ⟨x2, ex2, hf⟩ := z_bs hf
  refine z_iald X hI ex2 d_Ma_standsAgain_5 ?_
  refine lv_istore_n (lv' := [(3, .int x2), (0, .ref v0), (1, .int v1), (2, .int v2)]) hx hb d_Ma_standsAgain_6 rfl hl (by decide) rfl (fun ls hl => ?_)
  refine lv_aload_n hx hb d_Ma_standsAgain_7 rfl (lv_at hl 1 rfl) ?_
  obtain ⟨x3, ex3, hf⟩ := z_bs hf
  refine z_getF X hI (k := 8) (ci := 5) (gR_s ex3) i_Ma rfl (by decide) wf_Ma_21 d_Ma_standsAgain_8 ?_
  refine lv_iload_n hx hb d_Ma_standsAgain_11 rfl (lv_at hl 2 rfl) ?_
  obtain ⟨x4, ex4, hf⟩ := z_bs hf
  refine z_iald X hI ex4 d_Ma_standsAgain_12 ?_
  refine lv_iload_n hx hb d_Ma_standsAgain_13 rfl (lv_at hl 0 rfl) ?_
  refine lv_isub hx hb d_Ma_standsAgain_14 ?_
  obtain ⟨x5, ex5, hf⟩ := z_bs hf
  refine z_topi (Option.some.inj ex5) ?_
  refine lv_istore (lv' := [(4, .int x5), (3, .int x2), (0, .ref v0), (1, .int v1), (2, .int v2)]) hx hb d_Ma_standsAgain_15 hl (by decide) rfl (fun ls hl => ?_)
  refine lv_iload hx hb d_Ma_standsAgain_17 (lv_at hl 0 rfl) ?_
  refine lv_aload_n hx hb d_Ma_standsAgain_19 rfl (lv_at hl 2 rfl) ?_
  obtain ⟨x6, ex6, hf⟩ := z_bs hf
  refine z_getF X hI (k := 4) (ci := 5) (gR_s ex6) i_Ma rfl (by decide) wf_Ma_32 d_Ma_standsAgain_20 ?_
  obtain ⟨x7, ex7, hf⟩ := z_bs hf
  refine z_getF X hI (k := 1) (ci := 10) (gI_s ex7) i_Row rfl (by decide) wf_Ma_42 d_Ma_standsAgain_23 ?_
  refine lv_iload_n hx hb d_Ma_standsAgain_26 rfl (lv_at hl 4 rfl) ?_
  refine lv_isub hx hb d_Ma_standsAgain_27 ?_
  refine lv_icmp_le (tgt := 33) hx hb d_Ma_standsAgain_28 (by decide) (fun c8 => ?_) (fun c8 => ?_)
  · rw [if_pos c8] at hf
    refine lv_iconst (v := 0) hx hb d_Ma_standsAgain_33 (by decide) ?_
    refine lv_istore (lv' := [(5, .int 0), (4, .int x5), (3, .int x2), (0, .ref v0), (1, .int v1), (2, .int v2)]) hx hb d_Ma_standsAgain_34 hl (by decide) rfl (fun ls hl => ?_)
    exact s_Ma_standsAgain_36 X  N v0 v2 x2 x5 0 h _ _ _ hI (lv_sub hl [3, 5, 2, 1, 0] rfl) hf
  · rw [if_neg c8] at hf
    refine lv_iconst (v := 0) hx hb d_Ma_standsAgain_31 (by decide) ?_
    cases hf
    exact z_zret X hI (Or.inl rfl) d_Ma_standsAgain_32
def f_Ma_walk_6 (N : Nat)  : Nat → Nat → Int32 → Int32 → Int32 → z_H → Option (Int32 × z_H)
  | 0, _, _, _, _, _ => none
  | n + 1, v0, v2, v4, v5, h =>
    if v2 ≤ v5 then
    (some (v4, h))
    else
    (z_b (gR h v0 5 2) fun x2 =>
    z_b (gR h x2 4 1) fun x3 =>
    z_b (aI h x3 0 v5) fun x4 =>
    z_b (gR h v0 5 2) fun x5 =>
    z_b (gR h x5 4 0) fun x6 =>
    z_b (aI h x6 0 v5) fun x7 =>
    if x7 = 1 then
    (z_b (gR h v0 5 7) fun x9 =>
    z_b (uI h x9 0 x4 v4) fun h10 =>
    z_b (some (v5 + 1)) fun x11 =>
    (f_Ma_walk_6 N  n) v0 v2 v4 x11 h10)
    else
    (
    if x7 = 2 then
    (z_b (gR h v0 5 8) fun x13 =>
    z_b (uI h x13 0 x4 v4) fun h14 =>
    z_b (some (v5 + 1)) fun x15 =>
    (f_Ma_walk_6 N  n) v0 v2 v4 x15 h14)
    else
    (
    if x7 = 3 then
    (z_b (gO h v0 5) fun u17 =>
    z_b (f_Ma_standsAgain N v0 x4 v4 h) fun r18 =>
    if (r18.1) = 0 then
    (some ((-1), r18.2))
    else
    (z_b (gR r18.2 v0 5 8) fun x20 =>
    z_b (aI r18.2 x20 0 x4) fun x21 =>
    z_b (gR r18.2 v0 5 7) fun x22 =>
    z_b (aI r18.2 x22 0 x4) fun x23 =>
    z_b (some (v4 + (x21 - x23))) fun x24 =>
    z_b (some (v5 + 1)) fun x25 =>
    (f_Ma_walk_6 N  n) v0 v2 x24 x25 r18.2))
    else
    (
    z_b (gR h v0 5 4) fun x26 =>
    z_b (gI h x26 10 1) fun x27 =>
    if x27 ≤ v4 then
    (some ((-1), h))
    else
    (z_b (gR h v0 5 2) fun x29 =>
    z_b (gR h v0 5 4) fun x30 =>
    z_b (gR h x30 10 0) fun x31 =>
    z_b (aI h x31 1 v4) fun x32 =>
    z_b (gO h x29 4) fun u33 =>
    z_b (f_It_takes N x29 v5 x32 h) fun r34 =>
    if (r34.1) = 0 then
    (some ((-1), r34.2))
    else
    (z_b (some (v4 + 1)) fun x36 =>
    z_b (some (v5 + 1)) fun x37 =>
    (f_Ma_walk_6 N  n) v0 v2 x36 x37 r34.2))))))
set_option maxRecDepth 20000 in
set_option maxHeartbeats 2000000 in
theorem s_Ma_walk_6 (X : z_X p s m args meth c prog_7_method_9_code 7 (some .int) Ts "StreamForge$Matcher" D dA B) {N : Nat} {r : Int32} {h' : z_H}   : ∀ n : Nat, ∀ (v0 : Nat) (v2 : Int32) (v4 : Int32) (v5 : Int32) (h : z_H) (H : Heap) (locs : List Loc) (ls : Array Slot), z_I D dA B h s.heap H locs → lv_has ls 7 [(0, .ref v0), (2, .int v2), (4, .int v4), (5, .int v5)] → f_Ma_walk_6 N  n v0 v2 v4 v5 h = some (r, h') → W p l e (z_rm 1 25) s m args below meth c H locs 0 0 (MQ below (z_Q D dA B (some (.int r)) h') args s 0 0 (fun q => B ≤ q)) (F0 m 6 ls []) := by
  have hx := z_hx X
  have hb := z_hb X
  intro n
  induction n with
  | zero => intro v0 v2 v4 v5 h H locs ls hI hl hf; rw [f_Ma_walk_6] at hf; cases hf
  | succ n ih =>
    intro v0 v2 v4 v5 h H locs ls hI hl hf
    rw [f_Ma_walk_6] at hf
    refine lv_iload hx hb d_Ma_walk_6 (lv_at hl 3 rfl) ?_
    refine lv_iload_n hx hb d_Ma_walk_8 rfl (lv_at hl 1 rfl) ?_
    refine lv_icmp_ge (tgt := 165) hx hb d_Ma_walk_9 (by decide) (fun c1 => ?_) (fun c1 => ?_)
    · rw [if_pos c1] at hf
      refine lv_iload hx hb d_Ma_walk_165 (lv_at hl 2 rfl) ?_
      cases hf
      exact z_iret X hI d_Ma_walk_167
    · rw [if_neg c1] at hf
      refine lv_aload_n hx hb d_Ma_walk_12 rfl (lv_at hl 0 rfl) ?_
      obtain ⟨x2, ex2, hf⟩ := z_bs hf
      refine z_getF X hI (k := 2) (ci := 5) (gR_s ex2) i_Ma rfl (by decide) wf_Ma_24 d_Ma_walk_13 ?_
      obtain ⟨x3, ex3, hf⟩ := z_bs hf
      refine z_getF X hI (k := 1) (ci := 4) (gR_s ex3) i_It rfl (by decide) wf_Ma_97 d_Ma_walk_16 ?_
      refine lv_iload hx hb d_Ma_walk_19 (lv_at hl 3 rfl) ?_
      obtain ⟨x4, ex4, hf⟩ := z_bs hf
      refine z_iald X hI ex4 d_Ma_walk_21 ?_
      refine lv_istore (lv' := [(6, .int x4), (0, .ref v0), (2, .int v2), (4, .int v4), (5, .int v5)]) hx hb d_Ma_walk_22 hl (by decide) rfl (fun ls hl => ?_)
      refine lv_aload_n hx hb d_Ma_walk_24 rfl (lv_at hl 1 rfl) ?_
      obtain ⟨x5, ex5, hf⟩ := z_bs hf
      refine z_getF X hI (k := 2) (ci := 5) (gR_s ex5) i_Ma rfl (by decide) wf_Ma_24 d_Ma_walk_25 ?_
      obtain ⟨x6, ex6, hf⟩ := z_bs hf
      refine z_getF X hI (k := 0) (ci := 4) (gR_s ex6) i_It rfl (by decide) wf_Ma_100 d_Ma_walk_28 ?_
      refine lv_iload hx hb d_Ma_walk_31 (lv_at hl 4 rfl) ?_
      obtain ⟨x7, ex7, hf⟩ := z_bs hf
      refine z_iald X hI ex7 d_Ma_walk_33 ?_
      by_cases c8 : x7 = 1
      · rw [if_pos c8] at hf
        refine lv_tableIn (off := 26) (tgt := 60) hx hb d_Ma_walk_34 (by rw [c8]; decide) (by rw [c8]; decide) (by rw [c8]; rfl) (by decide) ?_
        refine lv_aload_n hx hb d_Ma_walk_60 rfl (lv_at hl 1 rfl) ?_
        obtain ⟨x9, ex9, hf⟩ := z_bs hf
        refine z_getF X hI (k := 7) (ci := 5) (gR_s ex9) i_Ma rfl (by decide) wf_Ma_18 d_Ma_walk_61 ?_
        refine lv_iload hx hb d_Ma_walk_64 (lv_at hl 0 rfl) ?_
        refine lv_iload hx hb d_Ma_walk_66 (lv_at hl 3 rfl) ?_
        obtain ⟨h10, eh10, hf⟩ := z_bs hf
        refine z_iast X hI eh10 d_Ma_walk_68 (fun H locs hI => ?_)
        refine lv_goto (tgt := 159) hx hb d_Ma_walk_69 (by decide) ?_
        obtain ⟨x11, ex11, hf⟩ := z_bs hf
        refine lv_iinc (v := x11) (lv' := [(5, .int x11), (6, .int x4), (0, .ref v0), (2, .int v2), (4, .int v4)]) hx hb d_Ma_walk_159 hl (k := 4) rfl (by rw [← Option.some.inj ex11]; rfl) (by decide) rfl (fun ls hl => ?_)
        refine lv_goto (tgt := 6) hx hb d_Ma_walk_162 (by decide) ?_
        exact ih v0 v2 v4 x11 h10 _ _ _ hI (lv_sub hl [2, 3, 4, 0] rfl) hf
      · rw [if_neg c8] at hf
        by_cases c12 : x7 = 2
        · rw [if_pos c12] at hf
          refine lv_tableIn (off := 38) (tgt := 72) hx hb d_Ma_walk_34 (by rw [c12]; decide) (by rw [c12]; decide) (by rw [c12]; rfl) (by decide) ?_
          refine lv_aload_n hx hb d_Ma_walk_72 rfl (lv_at hl 1 rfl) ?_
          obtain ⟨x13, ex13, hf⟩ := z_bs hf
          refine z_getF X hI (k := 8) (ci := 5) (gR_s ex13) i_Ma rfl (by decide) wf_Ma_21 d_Ma_walk_73 ?_
          refine lv_iload hx hb d_Ma_walk_76 (lv_at hl 0 rfl) ?_
          refine lv_iload hx hb d_Ma_walk_78 (lv_at hl 3 rfl) ?_
          obtain ⟨h14, eh14, hf⟩ := z_bs hf
          refine z_iast X hI eh14 d_Ma_walk_80 (fun H locs hI => ?_)
          refine lv_goto (tgt := 159) hx hb d_Ma_walk_81 (by decide) ?_
          obtain ⟨x15, ex15, hf⟩ := z_bs hf
          refine lv_iinc (v := x15) (lv' := [(5, .int x15), (6, .int x4), (0, .ref v0), (2, .int v2), (4, .int v4)]) hx hb d_Ma_walk_159 hl (k := 4) rfl (by rw [← Option.some.inj ex15]; rfl) (by decide) rfl (fun ls hl => ?_)
          refine lv_goto (tgt := 6) hx hb d_Ma_walk_162 (by decide) ?_
          exact ih v0 v2 v4 x15 h14 _ _ _ hI (lv_sub hl [2, 3, 4, 0] rfl) hf
        · rw [if_neg c12] at hf
          by_cases c16 : x7 = 3
          · rw [if_pos c16] at hf
            refine lv_tableIn (off := 50) (tgt := 84) hx hb d_Ma_walk_34 (by rw [c16]; decide) (by rw [c16]; decide) (by rw [c16]; rfl) (by decide) ?_
            refine lv_aload_n hx hb d_Ma_walk_84 rfl (lv_at hl 1 rfl) ?_
            refine lv_iload hx hb d_Ma_walk_85 (lv_at hl 0 rfl) ?_
            refine lv_iload hx hb d_Ma_walk_87 (lv_at hl 3 rfl) ?_
            obtain ⟨u17, eu17, hf⟩ := z_bs hf
            obtain ⟨r18, er18, hf⟩ := z_bs hf
            refine z_callV (As := [.int x4, .int v4]) (rest := []) (r := (some (.int r18.1))) (h' := r18.2) X hI eu17 (s_Ma_standsAgain er18) rfl rfl wm_Ma_103 yi_Ma_standsAgain rfl hl.1 rfl (Nat.le_of_ble_eq_true rfl) (by decide) (by decide) d_Ma_walk_89 (fun H locs hI => ?_)
            refine W.eq (g2 := F0 m 92 ls [.int (r18.1)]) rfl ?_
            refine lv_if_ne (tgt := 97) hx hb d_Ma_walk_92 (by decide) (fun c19 => ?_) (fun c19 => ?_)
            · rw [if_neg c19] at hf
              refine lv_iload hx hb d_Ma_walk_97 (lv_at hl 3 rfl) ?_
              refine lv_aload_n hx hb d_Ma_walk_99 rfl (lv_at hl 1 rfl) ?_
              obtain ⟨x20, ex20, hf⟩ := z_bs hf
              refine z_getF X hI (k := 8) (ci := 5) (gR_s ex20) i_Ma rfl (by decide) wf_Ma_21 d_Ma_walk_100 ?_
              refine lv_iload hx hb d_Ma_walk_103 (lv_at hl 0 rfl) ?_
              obtain ⟨x21, ex21, hf⟩ := z_bs hf
              refine z_iald X hI ex21 d_Ma_walk_105 ?_
              refine lv_aload_n hx hb d_Ma_walk_106 rfl (lv_at hl 1 rfl) ?_
              obtain ⟨x22, ex22, hf⟩ := z_bs hf
              refine z_getF X hI (k := 7) (ci := 5) (gR_s ex22) i_Ma rfl (by decide) wf_Ma_18 d_Ma_walk_107 ?_
              refine lv_iload hx hb d_Ma_walk_110 (lv_at hl 0 rfl) ?_
              obtain ⟨x23, ex23, hf⟩ := z_bs hf
              refine z_iald X hI ex23 d_Ma_walk_112 ?_
              refine lv_isub hx hb d_Ma_walk_113 ?_
              refine lv_iadd hx hb d_Ma_walk_114 ?_
              obtain ⟨x24, ex24, hf⟩ := z_bs hf
              refine z_topi (Option.some.inj ex24) ?_
              refine lv_istore (lv' := [(4, .int x24), (6, .int x4), (0, .ref v0), (2, .int v2), (5, .int v5)]) hx hb d_Ma_walk_115 hl (by decide) rfl (fun ls hl => ?_)
              refine lv_goto (tgt := 159) hx hb d_Ma_walk_117 (by decide) ?_
              obtain ⟨x25, ex25, hf⟩ := z_bs hf
              refine lv_iinc (v := x25) (lv' := [(5, .int x25), (4, .int x24), (6, .int x4), (0, .ref v0), (2, .int v2)]) hx hb d_Ma_walk_159 hl (k := 4) rfl (by rw [← Option.some.inj ex25]; rfl) (by decide) rfl (fun ls hl => ?_)
              refine lv_goto (tgt := 6) hx hb d_Ma_walk_162 (by decide) ?_
              exact ih v0 v2 x24 x25 r18.2 _ _ _ hI (lv_sub hl [3, 4, 1, 0] rfl) hf
            · rw [if_pos c19] at hf
              refine lv_iconst (v := (-1)) hx hb d_Ma_walk_95 (by decide) ?_
              cases hf
              exact z_iret X hI d_Ma_walk_96
          · rw [if_neg c16] at hf
            refine z_tabD (ks := [1, 2, 3]) (tgt := 120) hx hb d_Ma_walk_34 (by decide) (by decide) (by simp only [List.forall_mem_cons, List.not_mem_nil, false_implies, implies_true, and_true]; exact ⟨z_ne c8 (by decide), z_ne c12 (by decide), z_ne c16 (by decide)⟩) (by decide) ?_
            refine lv_iload hx hb d_Ma_walk_120 (lv_at hl 3 rfl) ?_
            refine lv_aload_n hx hb d_Ma_walk_122 rfl (lv_at hl 1 rfl) ?_
            obtain ⟨x26, ex26, hf⟩ := z_bs hf
            refine z_getF X hI (k := 4) (ci := 5) (gR_s ex26) i_Ma rfl (by decide) wf_Ma_32 d_Ma_walk_123 ?_
            obtain ⟨x27, ex27, hf⟩ := z_bs hf
            refine z_getF X hI (k := 1) (ci := 10) (gI_s ex27) i_Row rfl (by decide) wf_Ma_42 d_Ma_walk_126 ?_
            refine lv_icmp_ge (tgt := 154) hx hb d_Ma_walk_129 (by decide) (fun c28 => ?_) (fun c28 => ?_)
            · rw [if_pos c28] at hf
              refine lv_iconst (v := (-1)) hx hb d_Ma_walk_154 (by decide) ?_
              cases hf
              exact z_iret X hI d_Ma_walk_155
            · rw [if_neg c28] at hf
              refine lv_aload_n hx hb d_Ma_walk_132 rfl (lv_at hl 1 rfl) ?_
              obtain ⟨x29, ex29, hf⟩ := z_bs hf
              refine z_getF X hI (k := 2) (ci := 5) (gR_s ex29) i_Ma rfl (by decide) wf_Ma_24 d_Ma_walk_133 ?_
              refine lv_iload hx hb d_Ma_walk_136 (lv_at hl 4 rfl) ?_
              refine lv_aload_n hx hb d_Ma_walk_138 rfl (lv_at hl 1 rfl) ?_
              obtain ⟨x30, ex30, hf⟩ := z_bs hf
              refine z_getF X hI (k := 4) (ci := 5) (gR_s ex30) i_Ma rfl (by decide) wf_Ma_32 d_Ma_walk_139 ?_
              obtain ⟨x31, ex31, hf⟩ := z_bs hf
              refine z_getF X hI (k := 0) (ci := 10) (gR_s ex31) i_Row rfl (by decide) wf_Ma_88 d_Ma_walk_142 ?_
              refine lv_iload hx hb d_Ma_walk_145 (lv_at hl 3 rfl) ?_
              obtain ⟨x32, ex32, hf⟩ := z_bs hf
              refine z_cald X hI ex32 d_Ma_walk_147 ?_
              obtain ⟨u33, eu33, hf⟩ := z_bs hf
              obtain ⟨r34, er34, hf⟩ := z_bs hf
              refine z_callV (As := [.int v5, .int x32]) (rest := []) (r := (some (.int r34.1))) (h' := r34.2) X hI eu33 (s_It_takes er34) rfl rfl wm_Ma_92 yi_It_takes rfl hl.1 rfl (Nat.le_of_ble_eq_true rfl) (by decide) (by decide) d_Ma_walk_148 (fun H locs hI => ?_)
              refine W.eq (g2 := F0 m 151 ls [.int (r34.1)]) rfl ?_
              refine lv_if_ne (tgt := 156) hx hb d_Ma_walk_151 (by decide) (fun c35 => ?_) (fun c35 => ?_)
              · rw [if_neg c35] at hf
                obtain ⟨x36, ex36, hf⟩ := z_bs hf
                refine lv_iinc (v := x36) (lv' := [(4, .int x36), (6, .int x4), (0, .ref v0), (2, .int v2), (5, .int v5)]) hx hb d_Ma_walk_156 hl (k := 3) rfl (by rw [← Option.some.inj ex36]; rfl) (by decide) rfl (fun ls hl => ?_)
                obtain ⟨x37, ex37, hf⟩ := z_bs hf
                refine lv_iinc (v := x37) (lv' := [(5, .int x37), (4, .int x36), (6, .int x4), (0, .ref v0), (2, .int v2)]) hx hb d_Ma_walk_159 hl (k := 4) rfl (by rw [← Option.some.inj ex37]; rfl) (by decide) rfl (fun ls hl => ?_)
                refine lv_goto (tgt := 6) hx hb d_Ma_walk_162 (by decide) ?_
                exact ih v0 v2 x36 x37 r34.2 _ _ _ hI (lv_sub hl [3, 4, 1, 0] rfl) hf
              · rw [if_pos c35] at hf
                refine lv_iconst (v := (-1)) hx hb d_Ma_walk_154 (by decide) ?_
                cases hf
                exact z_iret X hI d_Ma_walk_155
def f_Ma_walk (N : Nat) (v0 : Nat) (v1 : Int32) (v2 : Int32) (v3 : Int32) (h : z_H) : Option (Int32 × z_H) :=
  f_Ma_walk_6 N N v0 v2 v3 v1 h
set_option maxRecDepth 20000 in
set_option maxHeartbeats 2000000 in
theorem s_Ma_walk {l : Launch} {D : va_G} {dA : Nat → ClassId} {B N : Nat} {v0 : Nat} {v1 : Int32} {v2 : Int32} {v3 : Int32} {h h' : z_H} {r : Int32} (hf : f_Ma_walk N v0 v1 v2 v3 h = some (r, h')) : z_Met l y_Ma_walk prog_7_method_9_code 7 (some .int) 1 25 D dA B [.ref v0, .int v1, .int v2, .int v3] h (some (.int r)) h' := by
  refine z_of (by decide) (Nat.le_of_ble_eq_true rfl) (fun p e s m below meth c ls X hI hl => ?_)
  have hx := z_hx X
  have hb := z_hb X
  have hl : lv_has ls 7 [(0, .ref v0), (1, .int v1), (2, .int v2), (3, .int v3)] := hl
  unfold f_Ma_walk at hf
  obtain ⟨locs, hlo⟩ : ∃ z : List Loc, z = [] := ⟨_, rfl⟩
  rw [← hlo] at hI ⊢
  refine lv_iload_n hx hb d_Ma_walk_0 rfl (lv_at hl 3 rfl) ?_
  refine lv_istore (lv' := [(4, .int v3), (0, .ref v0), (1, .int v1), (2, .int v2), (3, .int v3)]) hx hb d_Ma_walk_1 hl (by decide) rfl (fun ls hl => ?_)
  refine lv_iload_n hx hb d_Ma_walk_3 rfl (lv_at hl 2 rfl) ?_
  refine lv_istore (lv' := [(5, .int v1), (4, .int v3), (0, .ref v0), (1, .int v1), (2, .int v2), (3, .int v3)]) hx hb d_Ma_walk_4 hl (by decide) rfl (fun ls hl => ?_)
  exact s_Ma_walk_6 X  N v0 v2 v3 v1 h _ _ _ hI (lv_sub hl [2, 4, 1, 0] rfl) hf
def f_Ma_repeats (N : Nat) (v0 : Nat) (v1 : Int32) (v2 : Int32) (h : z_H) : Option (Int32 × z_H) :=
  z_b (gR h v0 5 3) fun x1 =>
  z_b (gI h x1 7 3) fun x2 =>
  if x2 ≤ v1 then
  (some (0, h))
  else
  (z_b (gR h v0 5 2) fun x4 =>
  z_b (gR h v0 5 4) fun x5 =>
  z_b (gR h x5 10 0) fun x6 =>
  z_b (aI h x6 1 v2) fun x7 =>
  z_b (gO h x4 4) fun u8 =>
  z_b (f_It_takes N x4 v1 x7 h) fun r9 =>
  if (r9.1) = 0 then
  (some (0, r9.2))
  else
  (some (1, r9.2)))
set_option maxRecDepth 20000 in
set_option maxHeartbeats 2000000 in
theorem s_Ma_repeats {l : Launch} {D : va_G} {dA : Nat → ClassId} {B N : Nat} {v0 : Nat} {v1 : Int32} {v2 : Int32} {h h' : z_H} {r : Int32} (hf : f_Ma_repeats N v0 v1 v2 h = some (r, h')) : z_Met l y_Ma_repeats prog_7_method_8_code 3 (some .boolean) 1 25 D dA B [.ref v0, .int v1, .int v2] h (some (.int r)) h' := by
  refine z_of (by decide) (Nat.le_of_ble_eq_true rfl) (fun p e s m below meth c ls X hI hl => ?_)
  have hx := z_hx X
  have hb := z_hb X
  have hl : lv_has ls 3 [(0, .ref v0), (1, .int v1), (2, .int v2)] := hl
  unfold f_Ma_repeats at hf
  obtain ⟨locs, hlo⟩ : ∃ z : List Loc, z = [] := ⟨_, rfl⟩
  rw [← hlo] at hI ⊢
  refine lv_iload_n hx hb d_Ma_repeats_0 rfl (lv_at hl 1 rfl) ?_
  refine lv_aload_n hx hb d_Ma_repeats_1 rfl (lv_at hl 0 rfl) ?_
  obtain ⟨x1, ex1, hf⟩ := z_bs hf
  refine z_getF X hI (k := 3) (ci := 5) (gR_s ex1) i_Ma rfl (by decide) wf_Ma_28 d_Ma_repeats_2 ?_
  obtain ⟨x2, ex2, hf⟩ := z_bs hf
  refine z_getF X hI (k := 3) (ci := 7) (gI_s ex2) i_Pt rfl (by decide) wf_Ma_78 d_Ma_repeats_5 ?_
  refine lv_icmp_ge (tgt := 35) hx hb d_Ma_repeats_8 (by decide) (fun c3 => ?_) (fun c3 => ?_)
  · rw [if_pos c3] at hf
    refine lv_iconst (v := 0) hx hb d_Ma_repeats_35 (by decide) ?_
    cases hf
    exact z_zret X hI (Or.inl rfl) d_Ma_repeats_36
  · rw [if_neg c3] at hf
    refine lv_aload_n hx hb d_Ma_repeats_11 rfl (lv_at hl 0 rfl) ?_
    obtain ⟨x4, ex4, hf⟩ := z_bs hf
    refine z_getF X hI (k := 2) (ci := 5) (gR_s ex4) i_Ma rfl (by decide) wf_Ma_24 d_Ma_repeats_12 ?_
    refine lv_iload_n hx hb d_Ma_repeats_15 rfl (lv_at hl 1 rfl) ?_
    refine lv_aload_n hx hb d_Ma_repeats_16 rfl (lv_at hl 0 rfl) ?_
    obtain ⟨x5, ex5, hf⟩ := z_bs hf
    refine z_getF X hI (k := 4) (ci := 5) (gR_s ex5) i_Ma rfl (by decide) wf_Ma_32 d_Ma_repeats_17 ?_
    obtain ⟨x6, ex6, hf⟩ := z_bs hf
    refine z_getF X hI (k := 0) (ci := 10) (gR_s ex6) i_Row rfl (by decide) wf_Ma_88 d_Ma_repeats_20 ?_
    refine lv_iload_n hx hb d_Ma_repeats_23 rfl (lv_at hl 2 rfl) ?_
    obtain ⟨x7, ex7, hf⟩ := z_bs hf
    refine z_cald X hI ex7 d_Ma_repeats_24 ?_
    obtain ⟨u8, eu8, hf⟩ := z_bs hf
    obtain ⟨r9, er9, hf⟩ := z_bs hf
    refine z_callV (As := [.int v1, .int x7]) (rest := []) (r := (some (.int r9.1))) (h' := r9.2) X hI eu8 (s_It_takes er9) rfl rfl wm_Ma_92 yi_It_takes rfl hl.1 rfl (Nat.le_of_ble_eq_true rfl) (by decide) (by decide) d_Ma_repeats_25 (fun H locs hI => ?_)
    refine W.eq (g2 := F0 m 28 ls [.int (r9.1)]) rfl ?_
    refine lv_if_eq (tgt := 35) hx hb d_Ma_repeats_28 (by decide) (fun c10 => ?_) (fun c10 => ?_)
    · rw [if_pos c10] at hf
      refine lv_iconst (v := 0) hx hb d_Ma_repeats_35 (by decide) ?_
      cases hf
      exact z_zret X hI (Or.inl rfl) d_Ma_repeats_36
    · rw [if_neg c10] at hf
      refine lv_iconst (v := 1) hx hb d_Ma_repeats_31 (by decide) ?_
      refine lv_goto (tgt := 36) hx hb d_Ma_repeats_32 (by decide) ?_
      cases hf
      exact z_zret X hI (Or.inr rfl) d_Ma_repeats_36
def f_Ma_keepIfLongest_47 (N : Nat)  : Nat → Nat → Int32 → z_H → Option z_H
  | 0, _, _, _ => none
  | n + 1, v0, v3, h =>
    z_b (gR h v0 5 3) fun x1 =>
    z_b (gI h x1 7 6) fun x2 =>
    if x2 < v3 then
    (some h)
    else
    (z_b (gR h v0 5 5) fun x4 =>
    z_b (gR h v0 5 7) fun x5 =>
    z_b (aI h x5 0 v3) fun x6 =>
    z_b (uI h x4 0 v3 x6) fun h7 =>
    z_b (gR h7 v0 5 6) fun x8 =>
    z_b (gR h7 v0 5 8) fun x9 =>
    z_b (aI h7 x9 0 v3) fun x10 =>
    z_b (uI h7 x8 0 v3 x10) fun h11 =>
    z_b (some (v3 + 1)) fun x12 =>
    (f_Ma_keepIfLongest_47 N  n) v0 x12 h11)
set_option maxRecDepth 20000 in
set_option maxHeartbeats 2000000 in
theorem s_Ma_keepIfLongest_47 (X : z_X p s m args meth c prog_7_method_7_code 4 none Ts "StreamForge$Matcher" D dA B) {N : Nat} {h' : z_H}   : ∀ n : Nat, ∀ (v0 : Nat) (v3 : Int32) (h : z_H) (H : Heap) (locs : List Loc) (ls : Array Slot), z_I D dA B h s.heap H locs → lv_has ls 4 [(0, .ref v0), (3, .int v3)] → f_Ma_keepIfLongest_47 N  n v0 v3 h = some h' → W p l e (z_rm 0 0) s m args below meth c H locs 0 0 (MQ below (z_Q D dA B none h') args s 0 0 (fun q => B ≤ q)) (F0 m 47 ls []) := by
  have hx := z_hx X
  have hb := z_hb X
  intro n
  induction n with
  | zero => intro v0 v3 h H locs ls hI hl hf; rw [f_Ma_keepIfLongest_47] at hf; cases hf
  | succ n ih =>
    intro v0 v3 h H locs ls hI hl hf
    rw [f_Ma_keepIfLongest_47] at hf
    refine lv_iload_n hx hb d_Ma_keepIfLongest_47 rfl (lv_at hl 1 rfl) ?_
    refine lv_aload_n hx hb d_Ma_keepIfLongest_48 rfl (lv_at hl 0 rfl) ?_
    obtain ⟨x1, ex1, hf⟩ := z_bs hf
    refine z_getF X hI (k := 3) (ci := 5) (gR_s ex1) i_Ma rfl (by decide) wf_Ma_28 d_Ma_keepIfLongest_49 ?_
    obtain ⟨x2, ex2, hf⟩ := z_bs hf
    refine z_getF X hI (k := 6) (ci := 7) (gI_s ex2) i_Pt rfl (by decide) wf_Ma_52 d_Ma_keepIfLongest_52 ?_
    refine lv_icmp_gt (tgt := 88) hx hb d_Ma_keepIfLongest_55 (by decide) (fun c3 => ?_) (fun c3 => ?_)
    · rw [if_pos c3] at hf
      cases hf
      exact z_vret X hI d_Ma_keepIfLongest_88
    · rw [if_neg c3] at hf
      refine lv_aload_n hx hb d_Ma_keepIfLongest_58 rfl (lv_at hl 0 rfl) ?_
      obtain ⟨x4, ex4, hf⟩ := z_bs hf
      refine z_getF X hI (k := 5) (ci := 5) (gR_s ex4) i_Ma rfl (by decide) wf_Ma_9 d_Ma_keepIfLongest_59 ?_
      refine lv_iload_n hx hb d_Ma_keepIfLongest_62 rfl (lv_at hl 1 rfl) ?_
      refine lv_aload_n hx hb d_Ma_keepIfLongest_63 rfl (lv_at hl 0 rfl) ?_
      obtain ⟨x5, ex5, hf⟩ := z_bs hf
      refine z_getF X hI (k := 7) (ci := 5) (gR_s ex5) i_Ma rfl (by decide) wf_Ma_18 d_Ma_keepIfLongest_64 ?_
      refine lv_iload_n hx hb d_Ma_keepIfLongest_67 rfl (lv_at hl 1 rfl) ?_
      obtain ⟨x6, ex6, hf⟩ := z_bs hf
      refine z_iald X hI ex6 d_Ma_keepIfLongest_68 ?_
      obtain ⟨h7, eh7, hf⟩ := z_bs hf
      refine z_iast X hI eh7 d_Ma_keepIfLongest_69 (fun H locs hI => ?_)
      refine lv_aload_n hx hb d_Ma_keepIfLongest_70 rfl (lv_at hl 0 rfl) ?_
      obtain ⟨x8, ex8, hf⟩ := z_bs hf
      refine z_getF X hI (k := 6) (ci := 5) (gR_s ex8) i_Ma rfl (by decide) wf_Ma_15 d_Ma_keepIfLongest_71 ?_
      refine lv_iload_n hx hb d_Ma_keepIfLongest_74 rfl (lv_at hl 1 rfl) ?_
      refine lv_aload_n hx hb d_Ma_keepIfLongest_75 rfl (lv_at hl 0 rfl) ?_
      obtain ⟨x9, ex9, hf⟩ := z_bs hf
      refine z_getF X hI (k := 8) (ci := 5) (gR_s ex9) i_Ma rfl (by decide) wf_Ma_21 d_Ma_keepIfLongest_76 ?_
      refine lv_iload_n hx hb d_Ma_keepIfLongest_79 rfl (lv_at hl 1 rfl) ?_
      obtain ⟨x10, ex10, hf⟩ := z_bs hf
      refine z_iald X hI ex10 d_Ma_keepIfLongest_80 ?_
      obtain ⟨h11, eh11, hf⟩ := z_bs hf
      refine z_iast X hI eh11 d_Ma_keepIfLongest_81 (fun H locs hI => ?_)
      obtain ⟨x12, ex12, hf⟩ := z_bs hf
      refine lv_iinc (v := x12) (lv' := [(3, .int x12), (0, .ref v0)]) hx hb d_Ma_keepIfLongest_82 hl (k := 1) rfl (by rw [← Option.some.inj ex12]; rfl) (by decide) rfl (fun ls hl => ?_)
      refine lv_goto (tgt := 47) hx hb d_Ma_keepIfLongest_85 (by decide) ?_
      exact ih v0 x12 h11 _ _ _ hI (lv_sub hl [1, 0] rfl) hf
def f_Ma_keepIfLongest_35 (N : Nat)  (v0 : Nat) (v1 : Int32) (v2 : Int32) (h : z_H) : Option z_H :=
  z_b (sF h v0 5 0 (.int v1)) fun h1 =>
  z_b (sF h1 v0 5 1 (.int v2)) fun h2 =>
  f_Ma_keepIfLongest_47 N N v0 1 h2
set_option maxRecDepth 20000 in
set_option maxHeartbeats 2000000 in
theorem s_Ma_keepIfLongest_35 (X : z_X p s m args meth c prog_7_method_7_code 4 none Ts "StreamForge$Matcher" D dA B) {N : Nat} {h' : z_H}   : ∀ (v0 : Nat) (v1 : Int32) (v2 : Int32) (h : z_H) (H : Heap) (locs : List Loc) (ls : Array Slot), z_I D dA B h s.heap H locs → lv_has ls 4 [(0, .ref v0), (1, .int v1), (2, .int v2)] → f_Ma_keepIfLongest_35 N  v0 v1 v2 h = some h' → W p l e (z_rm 0 0) s m args below meth c H locs 0 0 (MQ below (z_Q D dA B none h') args s 0 0 (fun q => B ≤ q)) (F0 m 35 ls []) := by
  have hx := z_hx X
  have hb := z_hb X
  intro v0 v1 v2 h H locs ls hI hl hf
  unfold f_Ma_keepIfLongest_35 at hf
  refine lv_aload_n hx hb d_Ma_keepIfLongest_35 rfl (lv_at hl 0 rfl) ?_
  refine lv_iload_n hx hb d_Ma_keepIfLongest_36 rfl (lv_at hl 1 rfl) ?_
  obtain ⟨h1, eh1, hf⟩ := z_bs hf
  refine z_putF X hI (k := 0) (ci := 5) (ty0 := t_Ma) eh1 i_Ma t_Ma_ok n_Ma rfl (by decide) wf_Ma_55 rfl rfl rfl d_Ma_keepIfLongest_37 (fun H locs hI => ?_)
  refine lv_aload_n hx hb d_Ma_keepIfLongest_40 rfl (lv_at hl 0 rfl) ?_
  refine lv_iload_n hx hb d_Ma_keepIfLongest_41 rfl (lv_at hl 2 rfl) ?_
  obtain ⟨h2, eh2, hf⟩ := z_bs hf
  refine z_putF X hI (k := 1) (ci := 5) (ty0 := t_Ma) eh2 i_Ma t_Ma_ok n_Ma rfl (by decide) wf_Ma_58 rfl rfl rfl d_Ma_keepIfLongest_42 (fun H locs hI => ?_)
  refine lv_iconst (v := 1) hx hb d_Ma_keepIfLongest_45 (by decide) ?_
  refine lv_istore_n (lv' := [(3, .int 1), (0, .ref v0), (1, .int v1), (2, .int v2)]) hx hb d_Ma_keepIfLongest_46 rfl hl (by decide) rfl (fun ls hl => ?_)
  exact s_Ma_keepIfLongest_47 X  N v0 1 h2 _ _ _ hI (lv_sub hl [1, 0] rfl) hf
def f_Ma_keepIfLongest (N : Nat) (v0 : Nat) (v1 : Int32) (v2 : Int32) (h : z_H) : Option z_H :=
  if v2 = (-1) then
  (some h)
  else
  (z_b (gI h v0 5 1) fun x2 =>
  if v2 < x2 then
  (some h)
  else
  (z_b (gR h v0 5 3) fun x4 =>
  z_b (gI h x4 7 1) fun x5 =>
  if x5 = 0 then
  (f_Ma_keepIfLongest_35 N v0 v1 v2 h)
  else
  (z_b (gR h v0 5 4) fun x7 =>
  z_b (gI h x7 10 1) fun x8 =>
  if v2 = x8 then
  (f_Ma_keepIfLongest_35 N v0 v1 v2 h)
  else
  (some h))))
set_option maxRecDepth 20000 in
set_option maxHeartbeats 2000000 in
theorem s_Ma_keepIfLongest {l : Launch} {D : va_G} {dA : Nat → ClassId} {B N : Nat} {v0 : Nat} {v1 : Int32} {v2 : Int32} {h h' : z_H} (hf : f_Ma_keepIfLongest N v0 v1 v2 h = some h') : z_Met l y_Ma_keepIfLongest prog_7_method_7_code 4 none 0 0 D dA B [.ref v0, .int v1, .int v2] h none h' := by
  refine z_of (by decide) (Nat.le_of_ble_eq_true rfl) (fun p e s m below meth c ls X hI hl => ?_)
  have hx := z_hx X
  have hb := z_hb X
  have hl : lv_has ls 4 [(0, .ref v0), (1, .int v1), (2, .int v2)] := hl
  unfold f_Ma_keepIfLongest at hf
  obtain ⟨locs, hlo⟩ : ∃ z : List Loc, z = [] := ⟨_, rfl⟩
  rw [← hlo] at hI ⊢
  refine lv_iload_n hx hb d_Ma_keepIfLongest_0 rfl (lv_at hl 2 rfl) ?_
  refine lv_iconst (v := (-1)) hx hb d_Ma_keepIfLongest_1 (by decide) ?_
  refine lv_icmp_eq (tgt := 34) hx hb d_Ma_keepIfLongest_2 (by decide) (fun c1 => ?_) (fun c1 => ?_)
  · rw [if_pos c1] at hf
    cases hf
    exact z_vret X hI d_Ma_keepIfLongest_34
  · rw [if_neg c1] at hf
    refine lv_iload_n hx hb d_Ma_keepIfLongest_5 rfl (lv_at hl 2 rfl) ?_
    refine lv_aload_n hx hb d_Ma_keepIfLongest_6 rfl (lv_at hl 0 rfl) ?_
    obtain ⟨x2, ex2, hf⟩ := z_bs hf
    refine z_getF X hI (k := 1) (ci := 5) (gI_s ex2) i_Ma rfl (by decide) wf_Ma_58 d_Ma_keepIfLongest_7 ?_
    refine lv_icmp_lt (tgt := 34) hx hb d_Ma_keepIfLongest_10 (by decide) (fun c3 => ?_) (fun c3 => ?_)
    · rw [if_pos c3] at hf
      cases hf
      exact z_vret X hI d_Ma_keepIfLongest_34
    · rw [if_neg c3] at hf
      refine lv_aload_n hx hb d_Ma_keepIfLongest_13 rfl (lv_at hl 0 rfl) ?_
      obtain ⟨x4, ex4, hf⟩ := z_bs hf
      refine z_getF X hI (k := 3) (ci := 5) (gR_s ex4) i_Ma rfl (by decide) wf_Ma_28 d_Ma_keepIfLongest_14 ?_
      obtain ⟨x5, ex5, hf⟩ := z_bs hf
      refine z_getF X hI (k := 1) (ci := 7) (gI_s ex5) i_Pt rfl (by decide) wf_Ma_85 d_Ma_keepIfLongest_17 ?_
      refine lv_if_eq (tgt := 35) hx hb d_Ma_keepIfLongest_20 (by decide) (fun c6 => ?_) (fun c6 => ?_)
      · rw [if_pos c6] at hf
        exact s_Ma_keepIfLongest_35 X  v0 v1 v2 h _ _ _ hI (lv_sub hl [0, 1, 2] rfl) hf
      · rw [if_neg c6] at hf
        refine lv_iload_n hx hb d_Ma_keepIfLongest_23 rfl (lv_at hl 2 rfl) ?_
        refine lv_aload_n hx hb d_Ma_keepIfLongest_24 rfl (lv_at hl 0 rfl) ?_
        obtain ⟨x7, ex7, hf⟩ := z_bs hf
        refine z_getF X hI (k := 4) (ci := 5) (gR_s ex7) i_Ma rfl (by decide) wf_Ma_32 d_Ma_keepIfLongest_25 ?_
        obtain ⟨x8, ex8, hf⟩ := z_bs hf
        refine z_getF X hI (k := 1) (ci := 10) (gI_s ex8) i_Row rfl (by decide) wf_Ma_42 d_Ma_keepIfLongest_28 ?_
        refine lv_icmp_eq (tgt := 35) hx hb d_Ma_keepIfLongest_31 (by decide) (fun c9 => ?_) (fun c9 => ?_)
        · rw [if_pos c9] at hf
          exact s_Ma_keepIfLongest_35 X  v0 v1 v2 h _ _ _ hI (lv_sub hl [0, 1, 2] rfl) hf
        · rw [if_neg c9] at hf
          cases hf
          exact z_vret X hI d_Ma_keepIfLongest_34
def f_Ma_findLongest_139 (N : Nat) (k27 : Nat → Int32 → Int32 → Int32 → z_H → Option (Int32 × z_H)) (k94 : Nat → Int32 → Int32 → Int32 → Int32 → Int32 → z_H → Option (Int32 × z_H)) (v0 : Nat) (v1 : Int32) (v2 : Int32) (v3 : Int32) (v4 : Int32) (v5 : Int32) (h : z_H) : Option (Int32 × z_H) :=
  z_b (gR h v0 5 3) fun x1 =>
  z_b (gI h x1 7 5) fun x2 =>
  z_b (gR h v0 5 3) fun x3 =>
  z_b (gI h x3 7 3) fun x4 =>
  z_b (gO h v0 5) fun u5 =>
  z_b (f_Ma_walk N v0 (x2 + 1) x4 v5 h) fun r6 =>
  z_b (gO r6.2 v0 5) fun u7 =>
  z_b (f_Ma_keepIfLongest N v0 v1 (r6.1) r6.2) fun r8 =>
  z_b (some (v5 + 1)) fun x9 =>
  k94 v0 v1 v2 v3 v4 x9 r8
set_option maxRecDepth 20000 in
set_option maxHeartbeats 2000000 in
theorem s_Ma_findLongest_139 (X : z_X p s m args meth c prog_7_method_6_code 6 (some .boolean) Ts "StreamForge$Matcher" D dA B) {N : Nat} {r : Int32} {h' : z_H} {k27 : Nat → Int32 → Int32 → Int32 → z_H → Option (Int32 × z_H)} {k94 : Nat → Int32 → Int32 → Int32 → Int32 → Int32 → z_H → Option (Int32 × z_H)} (hk27 : ∀ (v0 : Nat) (v1 : Int32) (v2 : Int32) (v3 : Int32) (h : z_H) (H : Heap) (locs : List Loc) (ls : Array Slot), z_I D dA B h s.heap H locs → lv_has ls 6 [(0, .ref v0), (1, .int v1), (2, .int v2), (3, .int v3)] → k27 v0 v1 v2 v3 h = some (r, h') → W p l e (z_rm 2 51) s m args below meth c H locs 0 0 (MQ below (z_Q D dA B (some (.int r)) h') args s 0 0 (fun q => B ≤ q)) (F0 m 27 ls [])) (hk94 : ∀ (v0 : Nat) (v1 : Int32) (v2 : Int32) (v3 : Int32) (v4 : Int32) (v5 : Int32) (h : z_H) (H : Heap) (locs : List Loc) (ls : Array Slot), z_I D dA B h s.heap H locs → lv_has ls 6 [(0, .ref v0), (1, .int v1), (2, .int v2), (3, .int v3), (4, .int v4), (5, .int v5)] → k94 v0 v1 v2 v3 v4 v5 h = some (r, h') → W p l e (z_rm 2 51) s m args below meth c H locs 0 0 (MQ below (z_Q D dA B (some (.int r)) h') args s 0 0 (fun q => B ≤ q)) (F0 m 94 ls [])) : ∀ (v0 : Nat) (v1 : Int32) (v2 : Int32) (v3 : Int32) (v4 : Int32) (v5 : Int32) (h : z_H) (H : Heap) (locs : List Loc) (ls : Array Slot), z_I D dA B h s.heap H locs → lv_has ls 6 [(0, .ref v0), (1, .int v1), (2, .int v2), (3, .int v3), (4, .int v4), (5, .int v5)] → f_Ma_findLongest_139 N k27 k94 v0 v1 v2 v3 v4 v5 h = some (r, h') → W p l e (z_rm 2 51) s m args below meth c H locs 0 0 (MQ below (z_Q D dA B (some (.int r)) h') args s 0 0 (fun q => B ≤ q)) (F0 m 139 ls []) := by
  have hx := z_hx X
  have hb := z_hb X
  intro v0 v1 v2 v3 v4 v5 h H locs ls hI hl hf
  unfold f_Ma_findLongest_139 at hf
  refine lv_aload_n hx hb d_Ma_findLongest_139 rfl (lv_at hl 0 rfl) ?_
  refine lv_iload_n hx hb d_Ma_findLongest_140 rfl (lv_at hl 1 rfl) ?_
  refine lv_aload_n hx hb d_Ma_findLongest_141 rfl (lv_at hl 0 rfl) ?_
  refine lv_aload_n hx hb d_Ma_findLongest_142 rfl (lv_at hl 0 rfl) ?_
  obtain ⟨x1, ex1, hf⟩ := z_bs hf
  refine z_getF X hI (k := 3) (ci := 5) (gR_s ex1) i_Ma rfl (by decide) wf_Ma_28 d_Ma_findLongest_143 ?_
  obtain ⟨x2, ex2, hf⟩ := z_bs hf
  refine z_getF X hI (k := 5) (ci := 7) (gI_s ex2) i_Pt rfl (by decide) wf_Ma_75 d_Ma_findLongest_146 ?_
  refine lv_iconst (v := 1) hx hb d_Ma_findLongest_149 (by decide) ?_
  refine lv_iadd hx hb d_Ma_findLongest_150 ?_
  refine lv_aload_n hx hb d_Ma_findLongest_151 rfl (lv_at hl 0 rfl) ?_
  obtain ⟨x3, ex3, hf⟩ := z_bs hf
  refine z_getF X hI (k := 3) (ci := 5) (gR_s ex3) i_Ma rfl (by decide) wf_Ma_28 d_Ma_findLongest_152 ?_
  obtain ⟨x4, ex4, hf⟩ := z_bs hf
  refine z_getF X hI (k := 3) (ci := 7) (gI_s ex4) i_Pt rfl (by decide) wf_Ma_78 d_Ma_findLongest_155 ?_
  refine lv_iload hx hb d_Ma_findLongest_158 (lv_at hl 5 rfl) ?_
  obtain ⟨u5, eu5, hf⟩ := z_bs hf
  obtain ⟨r6, er6, hf⟩ := z_bs hf
  refine z_callV (As := [.int (x2 + 1), .int x4, .int v5]) (rest := [.int v1, .ref v0]) (r := (some (.int r6.1))) (h' := r6.2) X hI eu5 (s_Ma_walk er6) rfl rfl wm_Ma_67 yi_Ma_walk rfl hl.1 rfl (Nat.le_of_ble_eq_true rfl) (by decide) (by decide) d_Ma_findLongest_160 (fun H locs hI => ?_)
  refine W.eq (g2 := F0 m 163 ls [.int (r6.1), .int v1, .ref v0]) rfl ?_
  obtain ⟨u7, eu7, hf⟩ := z_bs hf
  obtain ⟨r8, er8, hf⟩ := z_bs hf
  refine z_callV (As := [.int v1, .int (r6.1)]) (rest := []) (r := none) (h' := r8) X hI eu7 (s_Ma_keepIfLongest er8) rfl rfl wm_Ma_81 yi_Ma_keepIfLongest rfl hl.1 rfl (Nat.le_of_ble_eq_true rfl) (by decide) (by decide) d_Ma_findLongest_163 (fun H locs hI => ?_)
  refine W.eq (g2 := F0 m 166 ls []) rfl ?_
  obtain ⟨x9, ex9, hf⟩ := z_bs hf
  refine lv_iinc (v := x9) (lv' := [(5, .int x9), (0, .ref v0), (1, .int v1), (2, .int v2), (3, .int v3), (4, .int v4)]) hx hb d_Ma_findLongest_166 hl (k := 5) rfl (by rw [← Option.some.inj ex9]; rfl) (by decide) rfl (fun ls hl => ?_)
  refine lv_goto (tgt := 94) hx hb d_Ma_findLongest_169 (by decide) ?_
  exact hk94 v0 v1 v2 v3 v4 x9 r8 _ _ _ hI (lv_sub hl [1, 2, 3, 4, 5, 0] rfl) hf
def f_Ma_findLongest_94 (N : Nat) (k27 : Nat → Int32 → Int32 → Int32 → z_H → Option (Int32 × z_H)) : Nat → Nat → Int32 → Int32 → Int32 → Int32 → Int32 → z_H → Option (Int32 × z_H)
  | 0, _, _, _, _, _, _, _ => none
  | n + 1, v0, v1, v2, v3, v4, v5, h =>
    if v5 < 0 then
    (z_b (some (v3 + 1)) fun x2 =>
    k27 v0 v1 v2 x2 h)
    else
    (z_b (gR h v0 5 4) fun x3 =>
    z_b (gI h x3 10 1) fun x4 =>
    if x4 < v5 then
    (z_b (some (v3 + 1)) fun x6 =>
    k27 v0 v1 v2 x6 h)
    else
    (if v5 ≤ v4 then
    (f_Ma_findLongest_139 N k27 (f_Ma_findLongest_94 N k27 n) v0 v1 v2 v3 v4 v5 h)
    else
    (z_b (gR h v0 5 3) fun x8 =>
    z_b (gI h x8 7 5) fun x9 =>
    z_b (gO h v0 5) fun u10 =>
    z_b (f_Ma_repeats N v0 x9 (v5 - 1) h) fun r11 =>
    if (r11.1) = 0 then
    (z_b (some (v3 + 1)) fun x13 =>
    k27 v0 v1 v2 x13 r11.2)
    else
    (f_Ma_findLongest_139 N k27 (f_Ma_findLongest_94 N k27 n) v0 v1 v2 v3 v4 v5 r11.2))))
set_option maxRecDepth 20000 in
set_option maxHeartbeats 2000000 in
theorem s_Ma_findLongest_94 (X : z_X p s m args meth c prog_7_method_6_code 6 (some .boolean) Ts "StreamForge$Matcher" D dA B) {N : Nat} {r : Int32} {h' : z_H} {k27 : Nat → Int32 → Int32 → Int32 → z_H → Option (Int32 × z_H)} (hk27 : ∀ (v0 : Nat) (v1 : Int32) (v2 : Int32) (v3 : Int32) (h : z_H) (H : Heap) (locs : List Loc) (ls : Array Slot), z_I D dA B h s.heap H locs → lv_has ls 6 [(0, .ref v0), (1, .int v1), (2, .int v2), (3, .int v3)] → k27 v0 v1 v2 v3 h = some (r, h') → W p l e (z_rm 2 51) s m args below meth c H locs 0 0 (MQ below (z_Q D dA B (some (.int r)) h') args s 0 0 (fun q => B ≤ q)) (F0 m 27 ls [])) : ∀ n : Nat, ∀ (v0 : Nat) (v1 : Int32) (v2 : Int32) (v3 : Int32) (v4 : Int32) (v5 : Int32) (h : z_H) (H : Heap) (locs : List Loc) (ls : Array Slot), z_I D dA B h s.heap H locs → lv_has ls 6 [(0, .ref v0), (1, .int v1), (2, .int v2), (3, .int v3), (4, .int v4), (5, .int v5)] → f_Ma_findLongest_94 N k27 n v0 v1 v2 v3 v4 v5 h = some (r, h') → W p l e (z_rm 2 51) s m args below meth c H locs 0 0 (MQ below (z_Q D dA B (some (.int r)) h') args s 0 0 (fun q => B ≤ q)) (F0 m 94 ls []) := by
  have hx := z_hx X
  have hb := z_hb X
  intro n
  induction n with
  | zero => intro v0 v1 v2 v3 v4 v5 h H locs ls hI hl hf; rw [f_Ma_findLongest_94] at hf; cases hf
  | succ n ih =>
    intro v0 v1 v2 v3 v4 v5 h H locs ls hI hl hf
    rw [f_Ma_findLongest_94] at hf
    refine lv_iload hx hb d_Ma_findLongest_94 (lv_at hl 5 rfl) ?_
    refine lv_if_lt (tgt := 172) hx hb d_Ma_findLongest_96 (by decide) (fun c1 => ?_) (fun c1 => ?_)
    · rw [if_pos c1] at hf
      obtain ⟨x2, ex2, hf⟩ := z_bs hf
      refine lv_iinc (v := x2) (lv' := [(3, .int x2), (0, .ref v0), (1, .int v1), (2, .int v2), (4, .int v4), (5, .int v5)]) hx hb d_Ma_findLongest_172 hl (k := 3) rfl (by rw [← Option.some.inj ex2]; rfl) (by decide) rfl (fun ls hl => ?_)
      refine lv_goto (tgt := 27) hx hb d_Ma_findLongest_175 (by decide) ?_
      exact hk27 v0 v1 v2 x2 h _ _ _ hI (lv_sub hl [1, 2, 3, 0] rfl) hf
    · rw [if_neg c1] at hf
      refine lv_iload hx hb d_Ma_findLongest_99 (lv_at hl 5 rfl) ?_
      refine lv_aload_n hx hb d_Ma_findLongest_101 rfl (lv_at hl 0 rfl) ?_
      obtain ⟨x3, ex3, hf⟩ := z_bs hf
      refine z_getF X hI (k := 4) (ci := 5) (gR_s ex3) i_Ma rfl (by decide) wf_Ma_32 d_Ma_findLongest_102 ?_
      obtain ⟨x4, ex4, hf⟩ := z_bs hf
      refine z_getF X hI (k := 1) (ci := 10) (gI_s ex4) i_Row rfl (by decide) wf_Ma_42 d_Ma_findLongest_105 ?_
      refine lv_icmp_gt (tgt := 172) hx hb d_Ma_findLongest_108 (by decide) (fun c5 => ?_) (fun c5 => ?_)
      · rw [if_pos c5] at hf
        obtain ⟨x6, ex6, hf⟩ := z_bs hf
        refine lv_iinc (v := x6) (lv' := [(3, .int x6), (0, .ref v0), (1, .int v1), (2, .int v2), (4, .int v4), (5, .int v5)]) hx hb d_Ma_findLongest_172 hl (k := 3) rfl (by rw [← Option.some.inj ex6]; rfl) (by decide) rfl (fun ls hl => ?_)
        refine lv_goto (tgt := 27) hx hb d_Ma_findLongest_175 (by decide) ?_
        exact hk27 v0 v1 v2 x6 h _ _ _ hI (lv_sub hl [1, 2, 3, 0] rfl) hf
      · rw [if_neg c5] at hf
        refine lv_iload hx hb d_Ma_findLongest_111 (lv_at hl 5 rfl) ?_
        refine lv_iload hx hb d_Ma_findLongest_113 (lv_at hl 4 rfl) ?_
        refine lv_icmp_le (tgt := 139) hx hb d_Ma_findLongest_115 (by decide) (fun c7 => ?_) (fun c7 => ?_)
        · rw [if_pos c7] at hf
          exact s_Ma_findLongest_139 X hk27 ih v0 v1 v2 v3 v4 v5 h _ _ _ hI (lv_sub hl [0, 1, 2, 3, 4, 5] rfl) hf
        · rw [if_neg c7] at hf
          refine lv_aload_n hx hb d_Ma_findLongest_118 rfl (lv_at hl 0 rfl) ?_
          refine lv_aload_n hx hb d_Ma_findLongest_119 rfl (lv_at hl 0 rfl) ?_
          obtain ⟨x8, ex8, hf⟩ := z_bs hf
          refine z_getF X hI (k := 3) (ci := 5) (gR_s ex8) i_Ma rfl (by decide) wf_Ma_28 d_Ma_findLongest_120 ?_
          obtain ⟨x9, ex9, hf⟩ := z_bs hf
          refine z_getF X hI (k := 5) (ci := 7) (gI_s ex9) i_Pt rfl (by decide) wf_Ma_75 d_Ma_findLongest_123 ?_
          refine lv_iload hx hb d_Ma_findLongest_126 (lv_at hl 5 rfl) ?_
          refine lv_iconst (v := 1) hx hb d_Ma_findLongest_128 (by decide) ?_
          refine lv_isub hx hb d_Ma_findLongest_129 ?_
          obtain ⟨u10, eu10, hf⟩ := z_bs hf
          obtain ⟨r11, er11, hf⟩ := z_bs hf
          refine z_callV (As := [.int x9, .int (v5 - 1)]) (rest := []) (r := (some (.int r11.1))) (h' := r11.2) X hI eu10 (s_Ma_repeats er11) rfl rfl wm_Ma_71 yi_Ma_repeats rfl hl.1 rfl (Nat.le_of_ble_eq_true rfl) (by decide) (by decide) d_Ma_findLongest_130 (fun H locs hI => ?_)
          refine W.eq (g2 := F0 m 133 ls [.int (r11.1)]) rfl ?_
          refine lv_if_ne (tgt := 139) hx hb d_Ma_findLongest_133 (by decide) (fun c12 => ?_) (fun c12 => ?_)
          · rw [if_neg c12] at hf
            exact s_Ma_findLongest_139 X hk27 ih v0 v1 v2 v3 v4 v5 r11.2 _ _ _ hI (lv_sub hl [0, 1, 2, 3, 4, 5] rfl) hf
          · rw [if_pos c12] at hf
            refine lv_goto (tgt := 172) hx hb d_Ma_findLongest_136 (by decide) ?_
            obtain ⟨x13, ex13, hf⟩ := z_bs hf
            refine lv_iinc (v := x13) (lv' := [(3, .int x13), (0, .ref v0), (1, .int v1), (2, .int v2), (4, .int v4), (5, .int v5)]) hx hb d_Ma_findLongest_172 hl (k := 3) rfl (by rw [← Option.some.inj ex13]; rfl) (by decide) rfl (fun ls hl => ?_)
            refine lv_goto (tgt := 27) hx hb d_Ma_findLongest_175 (by decide) ?_
            exact hk27 v0 v1 v2 x13 r11.2 _ _ _ hI (lv_sub hl [1, 2, 3, 0] rfl) hf
def f_Ma_findLongest_67 (N : Nat) (k27 : Nat → Int32 → Int32 → Int32 → z_H → Option (Int32 × z_H)) (v0 : Nat) (v1 : Int32) (v2 : Int32) (v3 : Int32) (h : z_H) : Option (Int32 × z_H) :=
  z_b (gR h v0 5 3) fun x1 =>
  z_b (gI h x1 7 4) fun x2 =>
  z_b (gR h v0 5 3) fun x3 =>
  z_b (gI h x3 7 5) fun x4 =>
  z_b (gO h v0 5) fun u5 =>
  z_b (f_Ma_walk N v0 (x2 + 1) x4 v3 h) fun r6 =>
  z_b (some (r6.1)) fun x7 =>
  f_Ma_findLongest_94 N k27 N v0 v1 v2 v3 x7 x7 r6.2
set_option maxRecDepth 20000 in
set_option maxHeartbeats 2000000 in
theorem s_Ma_findLongest_67 (X : z_X p s m args meth c prog_7_method_6_code 6 (some .boolean) Ts "StreamForge$Matcher" D dA B) {N : Nat} {r : Int32} {h' : z_H} {k27 : Nat → Int32 → Int32 → Int32 → z_H → Option (Int32 × z_H)} (hk27 : ∀ (v0 : Nat) (v1 : Int32) (v2 : Int32) (v3 : Int32) (h : z_H) (H : Heap) (locs : List Loc) (ls : Array Slot), z_I D dA B h s.heap H locs → lv_has ls 6 [(0, .ref v0), (1, .int v1), (2, .int v2), (3, .int v3)] → k27 v0 v1 v2 v3 h = some (r, h') → W p l e (z_rm 2 51) s m args below meth c H locs 0 0 (MQ below (z_Q D dA B (some (.int r)) h') args s 0 0 (fun q => B ≤ q)) (F0 m 27 ls [])) : ∀ (v0 : Nat) (v1 : Int32) (v2 : Int32) (v3 : Int32) (h : z_H) (H : Heap) (locs : List Loc) (ls : Array Slot), z_I D dA B h s.heap H locs → lv_has ls 6 [(0, .ref v0), (1, .int v1), (2, .int v2), (3, .int v3)] → f_Ma_findLongest_67 N k27 v0 v1 v2 v3 h = some (r, h') → W p l e (z_rm 2 51) s m args below meth c H locs 0 0 (MQ below (z_Q D dA B (some (.int r)) h') args s 0 0 (fun q => B ≤ q)) (F0 m 67 ls []) := by
  have hx := z_hx X
  have hb := z_hb X
  intro v0 v1 v2 v3 h H locs ls hI hl hf
  unfold f_Ma_findLongest_67 at hf
  refine lv_aload_n hx hb d_Ma_findLongest_67 rfl (lv_at hl 0 rfl) ?_
  refine lv_aload_n hx hb d_Ma_findLongest_68 rfl (lv_at hl 0 rfl) ?_
  obtain ⟨x1, ex1, hf⟩ := z_bs hf
  refine z_getF X hI (k := 3) (ci := 5) (gR_s ex1) i_Ma rfl (by decide) wf_Ma_28 d_Ma_findLongest_69 ?_
  obtain ⟨x2, ex2, hf⟩ := z_bs hf
  refine z_getF X hI (k := 4) (ci := 7) (gI_s ex2) i_Pt rfl (by decide) wf_Ma_64 d_Ma_findLongest_72 ?_
  refine lv_iconst (v := 1) hx hb d_Ma_findLongest_75 (by decide) ?_
  refine lv_iadd hx hb d_Ma_findLongest_76 ?_
  refine lv_aload_n hx hb d_Ma_findLongest_77 rfl (lv_at hl 0 rfl) ?_
  obtain ⟨x3, ex3, hf⟩ := z_bs hf
  refine z_getF X hI (k := 3) (ci := 5) (gR_s ex3) i_Ma rfl (by decide) wf_Ma_28 d_Ma_findLongest_78 ?_
  obtain ⟨x4, ex4, hf⟩ := z_bs hf
  refine z_getF X hI (k := 5) (ci := 7) (gI_s ex4) i_Pt rfl (by decide) wf_Ma_75 d_Ma_findLongest_81 ?_
  refine lv_iload_n hx hb d_Ma_findLongest_84 rfl (lv_at hl 3 rfl) ?_
  obtain ⟨u5, eu5, hf⟩ := z_bs hf
  obtain ⟨r6, er6, hf⟩ := z_bs hf
  refine z_callV (As := [.int (x2 + 1), .int x4, .int v3]) (rest := []) (r := (some (.int r6.1))) (h' := r6.2) X hI eu5 (s_Ma_walk er6) rfl rfl wm_Ma_67 yi_Ma_walk rfl hl.1 rfl (Nat.le_of_ble_eq_true rfl) (by decide) (by decide) d_Ma_findLongest_85 (fun H locs hI => ?_)
  refine W.eq (g2 := F0 m 88 ls [.int (r6.1)]) rfl ?_
  obtain ⟨x7, ex7, hf⟩ := z_bs hf
  refine z_topi (Option.some.inj ex7) ?_
  refine lv_istore (lv' := [(4, .int x7), (0, .ref v0), (1, .int v1), (2, .int v2), (3, .int v3)]) hx hb d_Ma_findLongest_88 hl (by decide) rfl (fun ls hl => ?_)
  refine lv_iload hx hb d_Ma_findLongest_90 (lv_at hl 0 rfl) ?_
  refine lv_istore (lv' := [(5, .int x7), (4, .int x7), (0, .ref v0), (1, .int v1), (2, .int v2), (3, .int v3)]) hx hb d_Ma_findLongest_92 hl (by decide) rfl (fun ls hl => ?_)
  exact s_Ma_findLongest_94 X hk27 N v0 v1 v2 v3 x7 x7 r6.2 _ _ _ hI (lv_sub hl [2, 3, 4, 5, 1, 0] rfl) hf
def f_Ma_findLongest_178 (N : Nat)  (v0 : Nat) (h : z_H) : Option (Int32 × z_H) :=
  z_b (gI h v0 5 1) fun x1 =>
  if x1 = (-1) then
  (some (0, h))
  else
  (some (1, h))
set_option maxRecDepth 20000 in
set_option maxHeartbeats 2000000 in
theorem s_Ma_findLongest_178 (X : z_X p s m args meth c prog_7_method_6_code 6 (some .boolean) Ts "StreamForge$Matcher" D dA B) {N : Nat} {r : Int32} {h' : z_H}   : ∀ (v0 : Nat) (h : z_H) (H : Heap) (locs : List Loc) (ls : Array Slot), z_I D dA B h s.heap H locs → lv_has ls 6 [(0, .ref v0)] → f_Ma_findLongest_178 N  v0 h = some (r, h') → W p l e (z_rm 2 51) s m args below meth c H locs 0 0 (MQ below (z_Q D dA B (some (.int r)) h') args s 0 0 (fun q => B ≤ q)) (F0 m 178 ls []) := by
  have hx := z_hx X
  have hb := z_hb X
  intro v0 h H locs ls hI hl hf
  unfold f_Ma_findLongest_178 at hf
  refine lv_aload_n hx hb d_Ma_findLongest_178 rfl (lv_at hl 0 rfl) ?_
  obtain ⟨x1, ex1, hf⟩ := z_bs hf
  refine z_getF X hI (k := 1) (ci := 5) (gI_s ex1) i_Ma rfl (by decide) wf_Ma_58 d_Ma_findLongest_179 ?_
  refine lv_iconst (v := (-1)) hx hb d_Ma_findLongest_182 (by decide) ?_
  refine lv_icmp_eq (tgt := 190) hx hb d_Ma_findLongest_183 (by decide) (fun c2 => ?_) (fun c2 => ?_)
  · rw [if_pos c2] at hf
    refine lv_iconst (v := 0) hx hb d_Ma_findLongest_190 (by decide) ?_
    cases hf
    exact z_zret X hI (Or.inl rfl) d_Ma_findLongest_191
  · rw [if_neg c2] at hf
    refine lv_iconst (v := 1) hx hb d_Ma_findLongest_186 (by decide) ?_
    refine lv_goto (tgt := 191) hx hb d_Ma_findLongest_187 (by decide) ?_
    cases hf
    exact z_zret X hI (Or.inr rfl) d_Ma_findLongest_191
def f_Ma_findLongest_27 (N : Nat)  : Nat → Nat → Int32 → Int32 → Int32 → z_H → Option (Int32 × z_H)
  | 0, _, _, _, _, _ => none
  | n + 1, v0, v1, v2, v3, h =>
    if v3 < 0 then
    (f_Ma_findLongest_178 N v0 h)
    else
    (z_b (gR h v0 5 4) fun x2 =>
    z_b (gI h x2 10 1) fun x3 =>
    if x3 < v3 then
    (f_Ma_findLongest_178 N v0 h)
    else
    (if v3 ≤ v2 then
    (f_Ma_findLongest_67 N (f_Ma_findLongest_27 N  n) v0 v1 v2 v3 h)
    else
    (z_b (gR h v0 5 3) fun x6 =>
    z_b (gI h x6 7 4) fun x7 =>
    z_b (gO h v0 5) fun u8 =>
    z_b (f_Ma_repeats N v0 x7 (v3 - 1) h) fun r9 =>
    if (r9.1) = 0 then
    (f_Ma_findLongest_178 N v0 r9.2)
    else
    (f_Ma_findLongest_67 N (f_Ma_findLongest_27 N  n) v0 v1 v2 v3 r9.2))))
set_option maxRecDepth 20000 in
set_option maxHeartbeats 2000000 in
theorem s_Ma_findLongest_27 (X : z_X p s m args meth c prog_7_method_6_code 6 (some .boolean) Ts "StreamForge$Matcher" D dA B) {N : Nat} {r : Int32} {h' : z_H}   : ∀ n : Nat, ∀ (v0 : Nat) (v1 : Int32) (v2 : Int32) (v3 : Int32) (h : z_H) (H : Heap) (locs : List Loc) (ls : Array Slot), z_I D dA B h s.heap H locs → lv_has ls 6 [(0, .ref v0), (1, .int v1), (2, .int v2), (3, .int v3)] → f_Ma_findLongest_27 N  n v0 v1 v2 v3 h = some (r, h') → W p l e (z_rm 2 51) s m args below meth c H locs 0 0 (MQ below (z_Q D dA B (some (.int r)) h') args s 0 0 (fun q => B ≤ q)) (F0 m 27 ls []) := by
  have hx := z_hx X
  have hb := z_hb X
  intro n
  induction n with
  | zero => intro v0 v1 v2 v3 h H locs ls hI hl hf; rw [f_Ma_findLongest_27] at hf; cases hf
  | succ n ih =>
    intro v0 v1 v2 v3 h H locs ls hI hl hf
    rw [f_Ma_findLongest_27] at hf
    refine lv_iload_n hx hb d_Ma_findLongest_27 rfl (lv_at hl 3 rfl) ?_
    refine lv_if_lt (tgt := 178) hx hb d_Ma_findLongest_28 (by decide) (fun c1 => ?_) (fun c1 => ?_)
    · rw [if_pos c1] at hf
      exact s_Ma_findLongest_178 X  v0 h _ _ _ hI (lv_sub hl [0] rfl) hf
    · rw [if_neg c1] at hf
      refine lv_iload_n hx hb d_Ma_findLongest_31 rfl (lv_at hl 3 rfl) ?_
      refine lv_aload_n hx hb d_Ma_findLongest_32 rfl (lv_at hl 0 rfl) ?_
      obtain ⟨x2, ex2, hf⟩ := z_bs hf
      refine z_getF X hI (k := 4) (ci := 5) (gR_s ex2) i_Ma rfl (by decide) wf_Ma_32 d_Ma_findLongest_33 ?_
      obtain ⟨x3, ex3, hf⟩ := z_bs hf
      refine z_getF X hI (k := 1) (ci := 10) (gI_s ex3) i_Row rfl (by decide) wf_Ma_42 d_Ma_findLongest_36 ?_
      refine lv_icmp_gt (tgt := 178) hx hb d_Ma_findLongest_39 (by decide) (fun c4 => ?_) (fun c4 => ?_)
      · rw [if_pos c4] at hf
        exact s_Ma_findLongest_178 X  v0 h _ _ _ hI (lv_sub hl [0] rfl) hf
      · rw [if_neg c4] at hf
        refine lv_iload_n hx hb d_Ma_findLongest_42 rfl (lv_at hl 3 rfl) ?_
        refine lv_iload_n hx hb d_Ma_findLongest_43 rfl (lv_at hl 2 rfl) ?_
        refine lv_icmp_le (tgt := 67) hx hb d_Ma_findLongest_44 (by decide) (fun c5 => ?_) (fun c5 => ?_)
        · rw [if_pos c5] at hf
          exact s_Ma_findLongest_67 X ih v0 v1 v2 v3 h _ _ _ hI (lv_sub hl [0, 1, 2, 3] rfl) hf
        · rw [if_neg c5] at hf
          refine lv_aload_n hx hb d_Ma_findLongest_47 rfl (lv_at hl 0 rfl) ?_
          refine lv_aload_n hx hb d_Ma_findLongest_48 rfl (lv_at hl 0 rfl) ?_
          obtain ⟨x6, ex6, hf⟩ := z_bs hf
          refine z_getF X hI (k := 3) (ci := 5) (gR_s ex6) i_Ma rfl (by decide) wf_Ma_28 d_Ma_findLongest_49 ?_
          obtain ⟨x7, ex7, hf⟩ := z_bs hf
          refine z_getF X hI (k := 4) (ci := 7) (gI_s ex7) i_Pt rfl (by decide) wf_Ma_64 d_Ma_findLongest_52 ?_
          refine lv_iload_n hx hb d_Ma_findLongest_55 rfl (lv_at hl 3 rfl) ?_
          refine lv_iconst (v := 1) hx hb d_Ma_findLongest_56 (by decide) ?_
          refine lv_isub hx hb d_Ma_findLongest_57 ?_
          obtain ⟨u8, eu8, hf⟩ := z_bs hf
          obtain ⟨r9, er9, hf⟩ := z_bs hf
          refine z_callV (As := [.int x7, .int (v3 - 1)]) (rest := []) (r := (some (.int r9.1))) (h' := r9.2) X hI eu8 (s_Ma_repeats er9) rfl rfl wm_Ma_71 yi_Ma_repeats rfl hl.1 rfl (Nat.le_of_ble_eq_true rfl) (by decide) (by decide) d_Ma_findLongest_58 (fun H locs hI => ?_)
          refine W.eq (g2 := F0 m 61 ls [.int (r9.1)]) rfl ?_
          refine lv_if_ne (tgt := 67) hx hb d_Ma_findLongest_61 (by decide) (fun c10 => ?_) (fun c10 => ?_)
          · rw [if_neg c10] at hf
            exact s_Ma_findLongest_67 X ih v0 v1 v2 v3 r9.2 _ _ _ hI (lv_sub hl [0, 1, 2, 3] rfl) hf
          · rw [if_pos c10] at hf
            refine lv_goto (tgt := 178) hx hb d_Ma_findLongest_64 (by decide) ?_
            exact s_Ma_findLongest_178 X  v0 r9.2 _ _ _ hI (lv_sub hl [0] rfl) hf
def f_Ma_findLongest (N : Nat) (v0 : Nat) (v1 : Int32) (h : z_H) : Option (Int32 × z_H) :=
  z_b (sF h v0 5 1 (.int (-1))) fun h1 =>
  z_b (gR h1 v0 5 3) fun x2 =>
  z_b (gI h1 x2 7 2) fun x3 =>
  z_b (gR h1 v0 5 3) fun x4 =>
  z_b (gI h1 x4 7 4) fun x5 =>
  z_b (gO h1 v0 5) fun u6 =>
  z_b (f_Ma_walk N v0 x3 x5 v1 h1) fun r7 =>
  z_b (some (r7.1)) fun x8 =>
  f_Ma_findLongest_27 N N v0 v1 x8 x8 r7.2
set_option maxRecDepth 20000 in
set_option maxHeartbeats 2000000 in
theorem s_Ma_findLongest {l : Launch} {D : va_G} {dA : Nat → ClassId} {B N : Nat} {v0 : Nat} {v1 : Int32} {h h' : z_H} {r : Int32} (hf : f_Ma_findLongest N v0 v1 h = some (r, h')) : z_Met l y_Ma_findLongest prog_7_method_6_code 6 (some .boolean) 2 51 D dA B [.ref v0, .int v1] h (some (.int r)) h' := by
  refine z_of (by decide) (Nat.le_of_ble_eq_true rfl) (fun p e s m below meth c ls X hI hl => ?_)
  have hx := z_hx X
  have hb := z_hb X
  have hl : lv_has ls 6 [(0, .ref v0), (1, .int v1)] := hl
  unfold f_Ma_findLongest at hf
  obtain ⟨locs, hlo⟩ : ∃ z : List Loc, z = [] := ⟨_, rfl⟩
  rw [← hlo] at hI ⊢
  refine lv_aload_n hx hb d_Ma_findLongest_0 rfl (lv_at hl 0 rfl) ?_
  refine lv_iconst (v := (-1)) hx hb d_Ma_findLongest_1 (by decide) ?_
  obtain ⟨h1, eh1, hf⟩ := z_bs hf
  refine z_putF X hI (k := 1) (ci := 5) (ty0 := t_Ma) eh1 i_Ma t_Ma_ok n_Ma rfl (by decide) wf_Ma_58 rfl rfl rfl d_Ma_findLongest_2 (fun H locs hI => ?_)
  refine lv_aload_n hx hb d_Ma_findLongest_5 rfl (lv_at hl 0 rfl) ?_
  refine lv_aload_n hx hb d_Ma_findLongest_6 rfl (lv_at hl 0 rfl) ?_
  obtain ⟨x2, ex2, hf⟩ := z_bs hf
  refine z_getF X hI (k := 3) (ci := 5) (gR_s ex2) i_Ma rfl (by decide) wf_Ma_28 d_Ma_findLongest_7 ?_
  obtain ⟨x3, ex3, hf⟩ := z_bs hf
  refine z_getF X hI (k := 2) (ci := 7) (gI_s ex3) i_Pt rfl (by decide) wf_Ma_61 d_Ma_findLongest_10 ?_
  refine lv_aload_n hx hb d_Ma_findLongest_13 rfl (lv_at hl 0 rfl) ?_
  obtain ⟨x4, ex4, hf⟩ := z_bs hf
  refine z_getF X hI (k := 3) (ci := 5) (gR_s ex4) i_Ma rfl (by decide) wf_Ma_28 d_Ma_findLongest_14 ?_
  obtain ⟨x5, ex5, hf⟩ := z_bs hf
  refine z_getF X hI (k := 4) (ci := 7) (gI_s ex5) i_Pt rfl (by decide) wf_Ma_64 d_Ma_findLongest_17 ?_
  refine lv_iload_n hx hb d_Ma_findLongest_20 rfl (lv_at hl 1 rfl) ?_
  obtain ⟨u6, eu6, hf⟩ := z_bs hf
  obtain ⟨r7, er7, hf⟩ := z_bs hf
  refine z_callV (As := [.int x3, .int x5, .int v1]) (rest := []) (r := (some (.int r7.1))) (h' := r7.2) X hI eu6 (s_Ma_walk er7) rfl rfl wm_Ma_67 yi_Ma_walk rfl hl.1 rfl (Nat.le_of_ble_eq_true rfl) (by decide) (by decide) d_Ma_findLongest_21 (fun H locs hI => ?_)
  refine W.eq (g2 := F0 m 24 ls [.int (r7.1)]) rfl ?_
  obtain ⟨x8, ex8, hf⟩ := z_bs hf
  refine z_topi (Option.some.inj ex8) ?_
  refine lv_istore_n (lv' := [(2, .int x8), (0, .ref v0), (1, .int v1)]) hx hb d_Ma_findLongest_24 rfl hl (by decide) rfl (fun ls hl => ?_)
  refine lv_iload_n hx hb d_Ma_findLongest_25 rfl (lv_at hl 0 rfl) ?_
  refine lv_istore_n (lv' := [(3, .int x8), (2, .int x8), (0, .ref v0), (1, .int v1)]) hx hb d_Ma_findLongest_26 rfl hl (by decide) rfl (fun ls hl => ?_)
  exact s_Ma_findLongest_27 X  N v0 v1 x8 x8 r7.2 _ _ _ hI (lv_sub hl [2, 3, 1, 0] rfl) hf
def f_Ma_find_42 (N : Nat)  : Nat → Nat → Int32 → Int32 → z_H → Option (Int32 × z_H)
  | 0, _, _, _, _ => none
  | n + 1, v0, v5, v6, h =>
    if v5 < v6 then
    (some (0, h))
    else
    (z_b (gO h v0 5) fun u2 =>
    z_b (f_Ma_findLongest N v0 v6 h) fun r3 =>
    if (r3.1) = 0 then
    (z_b (some (v6 + 1)) fun x5 =>
    (f_Ma_find_42 N  n) v0 v5 x5 r3.2)
    else
    (some (1, r3.2)))
set_option maxRecDepth 20000 in
set_option maxHeartbeats 2000000 in
theorem s_Ma_find_42 (X : z_X p s m args meth c prog_7_method_2_code 7 (some .boolean) Ts "StreamForge$Matcher" D dA B) {N : Nat} {r : Int32} {h' : z_H}   : ∀ n : Nat, ∀ (v0 : Nat) (v5 : Int32) (v6 : Int32) (h : z_H) (H : Heap) (locs : List Loc) (ls : Array Slot), z_I D dA B h s.heap H locs → lv_has ls 7 [(0, .ref v0), (5, .int v5), (6, .int v6)] → f_Ma_find_42 N  n v0 v5 v6 h = some (r, h') → W p l e (z_rm 3 76) s m args below meth c H locs 0 0 (MQ below (z_Q D dA B (some (.int r)) h') args s 0 0 (fun q => B ≤ q)) (F0 m 42 ls []) := by
  have hx := z_hx X
  have hb := z_hb X
  intro n
  induction n with
  | zero => intro v0 v5 v6 h H locs ls hI hl hf; rw [f_Ma_find_42] at hf; cases hf
  | succ n ih =>
    intro v0 v5 v6 h H locs ls hI hl hf
    rw [f_Ma_find_42] at hf
    refine lv_iload hx hb d_Ma_find_42 (lv_at hl 2 rfl) ?_
    refine lv_iload hx hb d_Ma_find_44 (lv_at hl 1 rfl) ?_
    refine lv_icmp_gt (tgt := 66) hx hb d_Ma_find_46 (by decide) (fun c1 => ?_) (fun c1 => ?_)
    · rw [if_pos c1] at hf
      refine lv_iconst (v := 0) hx hb d_Ma_find_66 (by decide) ?_
      cases hf
      exact z_zret X hI (Or.inl rfl) d_Ma_find_67
    · rw [if_neg c1] at hf
      refine lv_aload_n hx hb d_Ma_find_49 rfl (lv_at hl 0 rfl) ?_
      refine lv_iload hx hb d_Ma_find_50 (lv_at hl 2 rfl) ?_
      obtain ⟨u2, eu2, hf⟩ := z_bs hf
      obtain ⟨r3, er3, hf⟩ := z_bs hf
      refine z_callV (As := [.int v6]) (rest := []) (r := (some (.int r3.1))) (h' := r3.2) X hI eu2 (s_Ma_findLongest er3) rfl rfl wm_Ma_48 yi_Ma_findLongest rfl hl.1 rfl (Nat.le_of_ble_eq_true rfl) (by decide) (by decide) d_Ma_find_52 (fun H locs hI => ?_)
      refine W.eq (g2 := F0 m 55 ls [.int (r3.1)]) rfl ?_
      refine lv_if_eq (tgt := 60) hx hb d_Ma_find_55 (by decide) (fun c4 => ?_) (fun c4 => ?_)
      · rw [if_pos c4] at hf
        obtain ⟨x5, ex5, hf⟩ := z_bs hf
        refine lv_iinc (v := x5) (lv' := [(6, .int x5), (0, .ref v0), (5, .int v5)]) hx hb d_Ma_find_60 hl (k := 2) rfl (by rw [← Option.some.inj ex5]; rfl) (by decide) rfl (fun ls hl => ?_)
        refine lv_goto (tgt := 42) hx hb d_Ma_find_63 (by decide) ?_
        exact ih v0 v5 x5 r3.2 _ _ _ hI (lv_sub hl [1, 2, 0] rfl) hf
      · rw [if_neg c4] at hf
        refine lv_iconst (v := 1) hx hb d_Ma_find_58 (by decide) ?_
        cases hf
        exact z_zret X hI (Or.inr rfl) d_Ma_find_59
def f_Ma_find (N : Nat) (v0 : Nat) (v1 : Nat) (v2 : Nat) (v3 : Nat) (v4 : Int32) (h : z_H) : Option (Int32 × z_H) :=
  z_b (sF h v0 5 2 (.ref v1)) fun h1 =>
  z_b (sF h1 v0 5 3 (.ref v2)) fun h2 =>
  z_b (sF h2 v0 5 4 (.ref v3)) fun h3 =>
  z_b (gR h3 v0 5 3) fun x4 =>
  z_b (gI h3 x4 7 0) fun x5 =>
  if x5 = 0 then
  (z_b (gR h3 v0 5 4) fun x7 =>
  z_b (gI h3 x7 10 1) fun x8 =>
  f_Ma_find_42 N N v0 x8 v4 h3)
  else
  (f_Ma_find_42 N N v0 0 v4 h3)
set_option maxRecDepth 20000 in
set_option maxHeartbeats 2000000 in
theorem s_Ma_find {l : Launch} {D : va_G} {dA : Nat → ClassId} {B N : Nat} {v0 : Nat} {v1 : Nat} {v2 : Nat} {v3 : Nat} {v4 : Int32} {h h' : z_H} {r : Int32} (hf : f_Ma_find N v0 v1 v2 v3 v4 h = some (r, h')) : z_Met l y_Ma_find prog_7_method_2_code 7 (some .boolean) 3 76 D dA B [.ref v0, .ref v1, .ref v2, .ref v3, .int v4] h (some (.int r)) h' := by
  refine z_of (by decide) (Nat.le_of_ble_eq_true rfl) (fun p e s m below meth c ls X hI hl => ?_)
  have hx := z_hx X
  have hb := z_hb X
  have hl : lv_has ls 7 [(0, .ref v0), (1, .ref v1), (2, .ref v2), (3, .ref v3), (4, .int v4)] := hl
  unfold f_Ma_find at hf
  obtain ⟨locs, hlo⟩ : ∃ z : List Loc, z = [] := ⟨_, rfl⟩
  rw [← hlo] at hI ⊢
  refine lv_aload_n hx hb d_Ma_find_0 rfl (lv_at hl 0 rfl) ?_
  refine lv_aload_n hx hb d_Ma_find_1 rfl (lv_at hl 1 rfl) ?_
  obtain ⟨h1, eh1, hf⟩ := z_bs hf
  refine z_putF X hI (k := 2) (ci := 5) (ty0 := t_Ma) eh1 i_Ma t_Ma_ok n_Ma rfl (by decide) wf_Ma_24 rfl rfl rfl d_Ma_find_2 (fun H locs hI => ?_)
  refine lv_aload_n hx hb d_Ma_find_5 rfl (lv_at hl 0 rfl) ?_
  refine lv_aload_n hx hb d_Ma_find_6 rfl (lv_at hl 2 rfl) ?_
  obtain ⟨h2, eh2, hf⟩ := z_bs hf
  refine z_putF X hI (k := 3) (ci := 5) (ty0 := t_Ma) eh2 i_Ma t_Ma_ok n_Ma rfl (by decide) wf_Ma_28 rfl rfl rfl d_Ma_find_7 (fun H locs hI => ?_)
  refine lv_aload_n hx hb d_Ma_find_10 rfl (lv_at hl 0 rfl) ?_
  refine lv_aload_n hx hb d_Ma_find_11 rfl (lv_at hl 3 rfl) ?_
  obtain ⟨h3, eh3, hf⟩ := z_bs hf
  refine z_putF X hI (k := 4) (ci := 5) (ty0 := t_Ma) eh3 i_Ma t_Ma_ok n_Ma rfl (by decide) wf_Ma_32 rfl rfl rfl d_Ma_find_12 (fun H locs hI => ?_)
  refine lv_aload_n hx hb d_Ma_find_15 rfl (lv_at hl 0 rfl) ?_
  obtain ⟨x4, ex4, hf⟩ := z_bs hf
  refine z_getF X hI (k := 3) (ci := 5) (gR_s ex4) i_Ma rfl (by decide) wf_Ma_28 d_Ma_find_16 ?_
  obtain ⟨x5, ex5, hf⟩ := z_bs hf
  refine z_getF X hI (k := 0) (ci := 7) (gI_s ex5) i_Pt rfl (by decide) wf_Ma_36 d_Ma_find_19 ?_
  refine lv_if_eq (tgt := 29) hx hb d_Ma_find_22 (by decide) (fun c6 => ?_) (fun c6 => ?_)
  · rw [if_pos c6] at hf
    refine lv_aload_n hx hb d_Ma_find_29 rfl (lv_at hl 0 rfl) ?_
    obtain ⟨x7, ex7, hf⟩ := z_bs hf
    refine z_getF X hI (k := 4) (ci := 5) (gR_s ex7) i_Ma rfl (by decide) wf_Ma_32 d_Ma_find_30 ?_
    obtain ⟨x8, ex8, hf⟩ := z_bs hf
    refine z_getF X hI (k := 1) (ci := 10) (gI_s ex8) i_Row rfl (by decide) wf_Ma_42 d_Ma_find_33 ?_
    refine lv_istore (lv' := [(5, .int x8), (0, .ref v0), (1, .ref v1), (2, .ref v2), (3, .ref v3), (4, .int v4)]) hx hb d_Ma_find_36 hl (by decide) rfl (fun ls hl => ?_)
    refine lv_iload hx hb d_Ma_find_38 (lv_at hl 5 rfl) ?_
    refine lv_istore (lv' := [(6, .int v4), (5, .int x8), (0, .ref v0), (1, .ref v1), (2, .ref v2), (3, .ref v3), (4, .int v4)]) hx hb d_Ma_find_40 hl (by decide) rfl (fun ls hl => ?_)
    exact s_Ma_find_42 X  N v0 x8 v4 h3 _ _ _ hI (lv_sub hl [2, 1, 0] rfl) hf
  · rw [if_neg c6] at hf
    refine lv_iconst (v := 0) hx hb d_Ma_find_25 (by decide) ?_
    refine lv_goto (tgt := 36) hx hb d_Ma_find_26 (by decide) ?_
    refine lv_istore (lv' := [(5, .int 0), (0, .ref v0), (1, .ref v1), (2, .ref v2), (3, .ref v3), (4, .int v4)]) hx hb d_Ma_find_36 hl (by decide) rfl (fun ls hl => ?_)
    refine lv_iload hx hb d_Ma_find_38 (lv_at hl 5 rfl) ?_
    refine lv_istore (lv' := [(6, .int v4), (5, .int 0), (0, .ref v0), (1, .ref v1), (2, .ref v2), (3, .ref v3), (4, .int v4)]) hx hb d_Ma_find_40 hl (by decide) rfl (fun ls hl => ?_)
    exact s_Ma_find_42 X  N v0 0 v4 h3 _ _ _ hI (lv_sub hl [2, 1, 0] rfl) hf
def f_Ma_beginOf (N : Nat) (v0 : Nat) (v1 : Int32) (h : z_H) : Option (Int32 × z_H) :=
  z_b (gR h v0 5 5) fun x1 =>
  z_b (aI h x1 0 v1) fun x2 =>
  some (x2, h)
set_option maxRecDepth 20000 in
set_option maxHeartbeats 2000000 in
theorem s_Ma_beginOf {l : Launch} {D : va_G} {dA : Nat → ClassId} {B N : Nat} {v0 : Nat} {v1 : Int32} {h h' : z_H} {r : Int32} (hf : f_Ma_beginOf N v0 v1 h = some (r, h')) : z_Met l y_Ma_beginOf prog_7_method_3_code 2 (some .int) 0 0 D dA B [.ref v0, .int v1] h (some (.int r)) h' := by
  refine z_of (by decide) (Nat.le_of_ble_eq_true rfl) (fun p e s m below meth c ls X hI hl => ?_)
  have hx := z_hx X
  have hb := z_hb X
  have hl : lv_has ls 2 [(0, .ref v0), (1, .int v1)] := hl
  unfold f_Ma_beginOf at hf
  obtain ⟨locs, hlo⟩ : ∃ z : List Loc, z = [] := ⟨_, rfl⟩
  rw [← hlo] at hI ⊢
  refine lv_aload_n hx hb d_Ma_beginOf_0 rfl (lv_at hl 0 rfl) ?_
  obtain ⟨x1, ex1, hf⟩ := z_bs hf
  refine z_getF X hI (k := 5) (ci := 5) (gR_s ex1) i_Ma rfl (by decide) wf_Ma_9 d_Ma_beginOf_1 ?_
  refine lv_iload_n hx hb d_Ma_beginOf_4 rfl (lv_at hl 1 rfl) ?_
  obtain ⟨x2, ex2, hf⟩ := z_bs hf
  refine z_iald X hI ex2 d_Ma_beginOf_5 ?_
  cases hf
  exact z_iret X hI d_Ma_beginOf_6
def f_Ma_endOf (N : Nat) (v0 : Nat) (v1 : Int32) (h : z_H) : Option (Int32 × z_H) :=
  z_b (gR h v0 5 6) fun x1 =>
  z_b (aI h x1 0 v1) fun x2 =>
  some (x2, h)
set_option maxRecDepth 20000 in
set_option maxHeartbeats 2000000 in
theorem s_Ma_endOf {l : Launch} {D : va_G} {dA : Nat → ClassId} {B N : Nat} {v0 : Nat} {v1 : Int32} {h h' : z_H} {r : Int32} (hf : f_Ma_endOf N v0 v1 h = some (r, h')) : z_Met l y_Ma_endOf prog_7_method_4_code 2 (some .int) 0 0 D dA B [.ref v0, .int v1] h (some (.int r)) h' := by
  refine z_of (by decide) (Nat.le_of_ble_eq_true rfl) (fun p e s m below meth c ls X hI hl => ?_)
  have hx := z_hx X
  have hb := z_hb X
  have hl : lv_has ls 2 [(0, .ref v0), (1, .int v1)] := hl
  unfold f_Ma_endOf at hf
  obtain ⟨locs, hlo⟩ : ∃ z : List Loc, z = [] := ⟨_, rfl⟩
  rw [← hlo] at hI ⊢
  refine lv_aload_n hx hb d_Ma_endOf_0 rfl (lv_at hl 0 rfl) ?_
  obtain ⟨x1, ex1, hf⟩ := z_bs hf
  refine z_getF X hI (k := 6) (ci := 5) (gR_s ex1) i_Ma rfl (by decide) wf_Ma_15 d_Ma_endOf_1 ?_
  refine lv_iload_n hx hb d_Ma_endOf_4 rfl (lv_at hl 1 rfl) ?_
  obtain ⟨x2, ex2, hf⟩ := z_bs hf
  refine z_iald X hI ex2 d_Ma_endOf_5 ?_
  cases hf
  exact z_iret X hI d_Ma_endOf_6
def f_Ma_told_52 (N : Nat)  (v1 : Int32) (v3 : Int32) (s0 : Int32) (h : z_H) : Option (Int32 × z_H) :=
  if (v1 - v1 / 2 * 2) = 0 then
  (some (v3, h))
  else
  (some (s0 - v3, h))
set_option maxRecDepth 20000 in
set_option maxHeartbeats 2000000 in
theorem s_Ma_told_52 (X : z_X p s m args meth c prog_7_method_5_code 5 (some .int) Ts "StreamForge$Matcher" D dA B) {N : Nat} {r : Int32} {h' : z_H}   : ∀ (v1 : Int32) (v3 : Int32) (s0 : Int32) (h : z_H) (H : Heap) (locs : List Loc) (ls : Array Slot), z_I D dA B h s.heap H locs → lv_has ls 5 [(1, .int v1), (3, .int v3)] → f_Ma_told_52 N  v1 v3 s0 h = some (r, h') → W p l e (z_rm 0 0) s m args below meth c H locs 0 0 (MQ below (z_Q D dA B (some (.int r)) h') args s 0 0 (fun q => B ≤ q)) (F0 m 52 ls [.int s0]) := by
  have hx := z_hx X
  have hb := z_hb X
  intro v1 v3 s0 h H locs ls hI hl hf
  unfold f_Ma_told_52 at hf
  refine lv_istore (lv' := [(4, .int s0), (1, .int v1), (3, .int v3)]) hx hb d_Ma_told_52 hl (by decide) rfl (fun ls hl => ?_)
  refine lv_iload_n hx hb d_Ma_told_54 rfl (lv_at hl 1 rfl) ?_
  refine lv_iconst (v := 2) hx hb d_Ma_told_55 (by decide) ?_
  refine lv_irem hx hb d_Ma_told_56 (by decide) ?_
  refine lv_if_ne (tgt := 64) hx hb d_Ma_told_57 (by decide) (fun c1 => ?_) (fun c1 => ?_)
  · rw [if_neg c1] at hf
    refine lv_iload hx hb d_Ma_told_64 (lv_at hl 0 rfl) ?_
    refine lv_iload_n hx hb d_Ma_told_66 rfl (lv_at hl 2 rfl) ?_
    refine lv_isub hx hb d_Ma_told_67 ?_
    cases hf
    exact z_iret X hI d_Ma_told_68
  · rw [if_pos c1] at hf
    refine lv_iload_n hx hb d_Ma_told_60 rfl (lv_at hl 2 rfl) ?_
    refine lv_goto (tgt := 68) hx hb d_Ma_told_61 (by decide) ?_
    cases hf
    exact z_iret X hI d_Ma_told_68
def f_Ma_told_34 (N : Nat)  (v0 : Nat) (v1 : Int32) (v2 : Int32) (s0 : Int32) (h : z_H) : Option (Int32 × z_H) :=
  if v2 = 0 then
  (z_b (gI h v0 5 1) fun x4 =>
  f_Ma_told_52 N v1 s0 x4 h)
  else
  (z_b (gR h v0 5 6) fun x2 =>
  z_b (aI h x2 0 v2) fun x3 =>
  f_Ma_told_52 N v1 s0 x3 h)
set_option maxRecDepth 20000 in
set_option maxHeartbeats 2000000 in
theorem s_Ma_told_34 (X : z_X p s m args meth c prog_7_method_5_code 5 (some .int) Ts "StreamForge$Matcher" D dA B) {N : Nat} {r : Int32} {h' : z_H}   : ∀ (v0 : Nat) (v1 : Int32) (v2 : Int32) (s0 : Int32) (h : z_H) (H : Heap) (locs : List Loc) (ls : Array Slot), z_I D dA B h s.heap H locs → lv_has ls 5 [(0, .ref v0), (1, .int v1), (2, .int v2)] → f_Ma_told_34 N  v0 v1 v2 s0 h = some (r, h') → W p l e (z_rm 0 0) s m args below meth c H locs 0 0 (MQ below (z_Q D dA B (some (.int r)) h') args s 0 0 (fun q => B ≤ q)) (F0 m 34 ls [.int s0]) := by
  have hx := z_hx X
  have hb := z_hb X
  intro v0 v1 v2 s0 h H locs ls hI hl hf
  unfold f_Ma_told_34 at hf
  refine lv_istore_n (lv' := [(3, .int s0), (0, .ref v0), (1, .int v1), (2, .int v2)]) hx hb d_Ma_told_34 rfl hl (by decide) rfl (fun ls hl => ?_)
  refine lv_iload_n hx hb d_Ma_told_35 rfl (lv_at hl 3 rfl) ?_
  refine lv_if_ne (tgt := 46) hx hb d_Ma_told_36 (by decide) (fun c1 => ?_) (fun c1 => ?_)
  · rw [if_neg c1] at hf
    refine lv_aload_n hx hb d_Ma_told_46 rfl (lv_at hl 1 rfl) ?_
    obtain ⟨x2, ex2, hf⟩ := z_bs hf
    refine z_getF X hI (k := 6) (ci := 5) (gR_s ex2) i_Ma rfl (by decide) wf_Ma_15 d_Ma_told_47 ?_
    refine lv_iload_n hx hb d_Ma_told_50 rfl (lv_at hl 3 rfl) ?_
    obtain ⟨x3, ex3, hf⟩ := z_bs hf
    refine z_iald X hI ex3 d_Ma_told_51 ?_
    exact s_Ma_told_52 X  v1 s0 x3 h _ _ _ hI (lv_sub hl [2, 0] rfl) hf
  · rw [if_pos c1] at hf
    refine lv_aload_n hx hb d_Ma_told_39 rfl (lv_at hl 1 rfl) ?_
    obtain ⟨x4, ex4, hf⟩ := z_bs hf
    refine z_getF X hI (k := 1) (ci := 5) (gI_s ex4) i_Ma rfl (by decide) wf_Ma_58 d_Ma_told_40 ?_
    refine lv_goto (tgt := 52) hx hb d_Ma_told_43 (by decide) ?_
    exact s_Ma_told_52 X  v1 s0 x4 h _ _ _ hI (lv_sub hl [2, 0] rfl) hf
def f_Ma_told (N : Nat) (v0 : Nat) (v1 : Int32) (h : z_H) : Option (Int32 × z_H) :=
  z_b (some (v1 / 2)) fun x1 =>
  z_b (gR h v0 5 3) fun x2 =>
  z_b (gI h x2 7 6) fun x3 =>
  if x1 ≤ x3 then
  (if x1 = 0 then
  (z_b (gI h v0 5 0) fun x8 =>
  f_Ma_told_34 N v0 v1 x1 x8 h)
  else
  (z_b (gR h v0 5 5) fun x6 =>
  z_b (aI h x6 0 x1) fun x7 =>
  f_Ma_told_34 N v0 v1 x1 x7 h))
  else
  (some ((-1), h))
set_option maxRecDepth 20000 in
set_option maxHeartbeats 2000000 in
theorem s_Ma_told {l : Launch} {D : va_G} {dA : Nat → ClassId} {B N : Nat} {v0 : Nat} {v1 : Int32} {h h' : z_H} {r : Int32} (hf : f_Ma_told N v0 v1 h = some (r, h')) : z_Met l y_Ma_told prog_7_method_5_code 5 (some .int) 0 0 D dA B [.ref v0, .int v1] h (some (.int r)) h' := by
  refine z_of (by decide) (Nat.le_of_ble_eq_true rfl) (fun p e s m below meth c ls X hI hl => ?_)
  have hx := z_hx X
  have hb := z_hb X
  have hl : lv_has ls 5 [(0, .ref v0), (1, .int v1)] := hl
  unfold f_Ma_told at hf
  obtain ⟨locs, hlo⟩ : ∃ z : List Loc, z = [] := ⟨_, rfl⟩
  rw [← hlo] at hI ⊢
  refine lv_iload_n hx hb d_Ma_told_0 rfl (lv_at hl 1 rfl) ?_
  refine lv_iconst (v := 2) hx hb d_Ma_told_1 (by decide) ?_
  refine lv_idiv hx hb d_Ma_told_2 (by decide) ?_
  obtain ⟨x1, ex1, hf⟩ := z_bs hf
  refine z_topi (Option.some.inj ex1) ?_
  refine lv_istore_n (lv' := [(2, .int x1), (0, .ref v0), (1, .int v1)]) hx hb d_Ma_told_3 rfl hl (by decide) rfl (fun ls hl => ?_)
  refine lv_iload_n hx hb d_Ma_told_4 rfl (lv_at hl 0 rfl) ?_
  refine lv_aload_n hx hb d_Ma_told_5 rfl (lv_at hl 1 rfl) ?_
  obtain ⟨x2, ex2, hf⟩ := z_bs hf
  refine z_getF X hI (k := 3) (ci := 5) (gR_s ex2) i_Ma rfl (by decide) wf_Ma_28 d_Ma_told_6 ?_
  obtain ⟨x3, ex3, hf⟩ := z_bs hf
  refine z_getF X hI (k := 6) (ci := 7) (gI_s ex3) i_Pt rfl (by decide) wf_Ma_52 d_Ma_told_9 ?_
  refine lv_icmp_le (tgt := 17) hx hb d_Ma_told_12 (by decide) (fun c4 => ?_) (fun c4 => ?_)
  · rw [if_pos c4] at hf
    refine lv_iload_n hx hb d_Ma_told_17 rfl (lv_at hl 0 rfl) ?_
    refine lv_if_ne (tgt := 28) hx hb d_Ma_told_18 (by decide) (fun c5 => ?_) (fun c5 => ?_)
    · rw [if_neg c5] at hf
      refine lv_aload_n hx hb d_Ma_told_28 rfl (lv_at hl 1 rfl) ?_
      obtain ⟨x6, ex6, hf⟩ := z_bs hf
      refine z_getF X hI (k := 5) (ci := 5) (gR_s ex6) i_Ma rfl (by decide) wf_Ma_9 d_Ma_told_29 ?_
      refine lv_iload_n hx hb d_Ma_told_32 rfl (lv_at hl 0 rfl) ?_
      obtain ⟨x7, ex7, hf⟩ := z_bs hf
      refine z_iald X hI ex7 d_Ma_told_33 ?_
      exact s_Ma_told_34 X  v0 v1 x1 x7 h _ _ _ hI (lv_sub hl [1, 2, 0] rfl) hf
    · rw [if_pos c5] at hf
      refine lv_aload_n hx hb d_Ma_told_21 rfl (lv_at hl 1 rfl) ?_
      obtain ⟨x8, ex8, hf⟩ := z_bs hf
      refine z_getF X hI (k := 0) (ci := 5) (gI_s ex8) i_Ma rfl (by decide) wf_Ma_55 d_Ma_told_22 ?_
      refine lv_goto (tgt := 34) hx hb d_Ma_told_25 (by decide) ?_
      exact s_Ma_told_34 X  v0 v1 x1 x8 h _ _ _ hI (lv_sub hl [1, 2, 0] rfl) hf
  · rw [if_neg c4] at hf
    refine lv_iconst (v := (-1)) hx hb d_Ma_told_15 (by decide) ?_
    cases hf
    exact z_iret X hI d_Ma_told_16
end
