section
variable {p : Program} {l : Launch} {e : Env} {s : State} {m : MethodId} {args : Array Value} {below : List Frame} {meth : Method} {c : Code} {Ts : List Cond} {own : String} {D : va_G} {dA : Nat → ClassId} {B : Nat}
def f_Mod_substitute_158 (N : Nat)  (v0 : Nat) (h : z_H) : Option z_H :=
  z_b (gI h v0 12 41) fun x1 =>
  z_b (gO h v0 12) fun u2 =>
  z_b (f_Mod_wrong N v0 x1 h) fun r3 =>
  some r3
set_option maxRecDepth 20000 in
set_option maxHeartbeats 2000000 in
theorem s_Mod_substitute_158 (X : z_X p s m args meth c prog_14_method_27_code 4 none Ts "StreamForgeModel" D dA B) {N : Nat} {h' : z_H}   : ∀ (v0 : Nat) (h : z_H) (H : Heap) (locs : List Loc) (ls : Array Slot), z_I D dA B h s.heap H locs → lv_has ls 4 [(0, .ref v0)] → f_Mod_substitute_158 N  v0 h = some h' → W p l e (z_rm 4 95) s m args below meth c H locs 0 0 (MQ below (z_Q D dA B none h') args s 0 0 (fun q => B ≤ q)) (F0 m 158 ls []) := by
  have hx := z_hx X
  have hb := z_hb X
  intro v0 h H locs ls hI hl hf
  unfold f_Mod_substitute_158 at hf
  refine lv_aload_n hx hb d_Mod_substitute_158 rfl (lv_at hl 0 rfl) ?_
  refine lv_aload_n hx hb d_Mod_substitute_159 rfl (lv_at hl 0 rfl) ?_
  obtain ⟨x1, ex1, hf⟩ := z_bs hf
  refine z_getF X hI (k := 41) (ci := 12) (gI_s ex1) i_Mod rfl (by decide) wf_Mod_176 d_Mod_substitute_160 ?_
  obtain ⟨u2, eu2, hf⟩ := z_bs hf
  obtain ⟨r3, er3, hf⟩ := z_bs hf
  refine z_callV (As := [.int x1]) (rest := []) (r := none) (h' := r3) X hI eu2 (s_Mod_wrong er3) rfl rfl wm_Mod_187 yi_Mod_wrong rfl hl.1 rfl (Nat.le_of_ble_eq_true rfl) (by decide) (by decide) d_Mod_substitute_163 (fun H locs hI => ?_)
  refine W.eq (g2 := F0 m 166 ls []) rfl ?_
  cases hf
  exact z_vret X hI d_Mod_substitute_166
def f_Mod_substitute_209 (N : Nat) (k70 : Nat → Int32 → Int32 → z_H → Option z_H) (v0 : Nat) (v1 : Int32) (v2 : Int32) (h : z_H) : Option z_H :=
  z_b (gI h v0 12 41) fun x1 =>
  z_b (sF h v0 12 41 (.int (x1 + 1))) fun h2 =>
  k70 v0 v1 v2 h2
set_option maxRecDepth 20000 in
set_option maxHeartbeats 2000000 in
theorem s_Mod_substitute_209 (X : z_X p s m args meth c prog_14_method_27_code 4 none Ts "StreamForgeModel" D dA B) {N : Nat} {h' : z_H} {k70 : Nat → Int32 → Int32 → z_H → Option z_H} (hk70 : ∀ (v0 : Nat) (v1 : Int32) (v2 : Int32) (h : z_H) (H : Heap) (locs : List Loc) (ls : Array Slot), z_I D dA B h s.heap H locs → lv_has ls 4 [(0, .ref v0), (1, .int v1), (2, .int v2)] → k70 v0 v1 v2 h = some h' → W p l e (z_rm 4 95) s m args below meth c H locs 0 0 (MQ below (z_Q D dA B none h') args s 0 0 (fun q => B ≤ q)) (F0 m 70 ls [])) : ∀ (v0 : Nat) (v1 : Int32) (v2 : Int32) (h : z_H) (H : Heap) (locs : List Loc) (ls : Array Slot), z_I D dA B h s.heap H locs → lv_has ls 4 [(0, .ref v0), (1, .int v1), (2, .int v2)] → f_Mod_substitute_209 N k70 v0 v1 v2 h = some h' → W p l e (z_rm 4 95) s m args below meth c H locs 0 0 (MQ below (z_Q D dA B none h') args s 0 0 (fun q => B ≤ q)) (F0 m 209 ls []) := by
  have hx := z_hx X
  have hb := z_hb X
  intro v0 v1 v2 h H locs ls hI hl hf
  unfold f_Mod_substitute_209 at hf
  refine lv_aload_n hx hb d_Mod_substitute_209 rfl (lv_at hl 0 rfl) ?_
  refine lv_dup hx hb d_Mod_substitute_210 rfl ?_
  obtain ⟨x1, ex1, hf⟩ := z_bs hf
  refine z_getF X hI (k := 41) (ci := 12) (gI_s ex1) i_Mod rfl (by decide) wf_Mod_176 d_Mod_substitute_211 ?_
  refine lv_iconst (v := 1) hx hb d_Mod_substitute_214 (by decide) ?_
  refine lv_iadd hx hb d_Mod_substitute_215 ?_
  obtain ⟨h2, eh2, hf⟩ := z_bs hf
  refine z_putF X hI (k := 41) (ci := 12) (ty0 := t_Mod) eh2 i_Mod t_Mod_ok n_Mod rfl (by decide) wf_Mod_176 rfl rfl rfl d_Mod_substitute_216 (fun H locs hI => ?_)
  refine lv_goto (tgt := 70) hx hb d_Mod_substitute_219 (by decide) ?_
  exact hk70 v0 v1 v2 h2 _ _ _ hI (lv_sub hl [0, 1, 2] rfl) hf
def f_Mod_substitute_167 (N : Nat) (k70 : Nat → Int32 → Int32 → z_H → Option z_H) (v0 : Nat) (v1 : Int32) (v2 : Int32) (v3 : Int32) (h : z_H) : Option z_H :=
  if v3 = 103 then
  (z_b (gR h v0 12 22) fun x7 =>
  z_b (uI h x7 3 v1 (vp_nar .boolean 1)) fun h8 =>
  f_Mod_substitute_209 N k70 v0 v1 v2 h8)
  else
  (if v3 = 112 then
  (z_b (gR h v0 12 23) fun x5 =>
  z_b (uI h x5 3 v1 (vp_nar .boolean 1)) fun h6 =>
  f_Mod_substitute_209 N k70 v0 v1 v2 h6)
  else
  (z_b (gR h v0 12 19) fun x3 =>
  z_b (uI h x3 0 v1 (v3 - 48)) fun h4 =>
  f_Mod_substitute_209 N k70 v0 v1 v2 h4))
set_option maxRecDepth 20000 in
set_option maxHeartbeats 2000000 in
theorem s_Mod_substitute_167 (X : z_X p s m args meth c prog_14_method_27_code 4 none Ts "StreamForgeModel" D dA B) {N : Nat} {h' : z_H} {k70 : Nat → Int32 → Int32 → z_H → Option z_H} (hk70 : ∀ (v0 : Nat) (v1 : Int32) (v2 : Int32) (h : z_H) (H : Heap) (locs : List Loc) (ls : Array Slot), z_I D dA B h s.heap H locs → lv_has ls 4 [(0, .ref v0), (1, .int v1), (2, .int v2)] → k70 v0 v1 v2 h = some h' → W p l e (z_rm 4 95) s m args below meth c H locs 0 0 (MQ below (z_Q D dA B none h') args s 0 0 (fun q => B ≤ q)) (F0 m 70 ls [])) : ∀ (v0 : Nat) (v1 : Int32) (v2 : Int32) (v3 : Int32) (h : z_H) (H : Heap) (locs : List Loc) (ls : Array Slot), z_I D dA B h s.heap H locs → lv_has ls 4 [(0, .ref v0), (1, .int v1), (2, .int v2), (3, .int v3)] → f_Mod_substitute_167 N k70 v0 v1 v2 v3 h = some h' → W p l e (z_rm 4 95) s m args below meth c H locs 0 0 (MQ below (z_Q D dA B none h') args s 0 0 (fun q => B ≤ q)) (F0 m 167 ls []) := by
  have hx := z_hx X
  have hb := z_hb X
  intro v0 v1 v2 v3 h H locs ls hI hl hf
  unfold f_Mod_substitute_167 at hf
  refine lv_iload_n hx hb d_Mod_substitute_167 rfl (lv_at hl 3 rfl) ?_
  refine lv_bipush (v := 103) hx hb d_Mod_substitute_168 (by decide) ?_
  refine lv_icmp_ne (tgt := 183) hx hb d_Mod_substitute_170 (by decide) (fun c1 => ?_) (fun c1 => ?_)
  · rw [if_neg c1] at hf
    refine lv_iload_n hx hb d_Mod_substitute_183 rfl (lv_at hl 3 rfl) ?_
    refine lv_bipush (v := 112) hx hb d_Mod_substitute_184 (by decide) ?_
    refine lv_icmp_ne (tgt := 199) hx hb d_Mod_substitute_186 (by decide) (fun c2 => ?_) (fun c2 => ?_)
    · rw [if_neg c2] at hf
      refine lv_aload_n hx hb d_Mod_substitute_199 rfl (lv_at hl 0 rfl) ?_
      obtain ⟨x3, ex3, hf⟩ := z_bs hf
      refine z_getF X hI (k := 19) (ci := 12) (gR_s ex3) i_Mod rfl (by decide) wf_Mod_53 d_Mod_substitute_200 ?_
      refine lv_iload_n hx hb d_Mod_substitute_203 rfl (lv_at hl 1 rfl) ?_
      refine lv_iload_n hx hb d_Mod_substitute_204 rfl (lv_at hl 3 rfl) ?_
      refine lv_bipush (v := 48) hx hb d_Mod_substitute_205 (by decide) ?_
      refine lv_isub hx hb d_Mod_substitute_207 ?_
      obtain ⟨h4, eh4, hf⟩ := z_bs hf
      refine z_iast X hI eh4 d_Mod_substitute_208 (fun H locs hI => ?_)
      exact s_Mod_substitute_209 X hk70 v0 v1 v2 h4 _ _ _ hI (lv_sub hl [0, 1, 2] rfl) hf
    · rw [if_pos c2] at hf
      refine lv_aload_n hx hb d_Mod_substitute_189 rfl (lv_at hl 0 rfl) ?_
      obtain ⟨x5, ex5, hf⟩ := z_bs hf
      refine z_getF X hI (k := 23) (ci := 12) (gR_s ex5) i_Mod rfl (by decide) wf_Mod_66 d_Mod_substitute_190 ?_
      refine lv_iload_n hx hb d_Mod_substitute_193 rfl (lv_at hl 1 rfl) ?_
      refine lv_iconst (v := 1) hx hb d_Mod_substitute_194 (by decide) ?_
      obtain ⟨h6, eh6, hf⟩ := z_bs hf
      refine z_zast X hI eh6 d_Mod_substitute_195 (fun H locs hI => ?_)
      refine lv_goto (tgt := 209) hx hb d_Mod_substitute_196 (by decide) ?_
      exact s_Mod_substitute_209 X hk70 v0 v1 v2 h6 _ _ _ hI (lv_sub hl [0, 1, 2] rfl) hf
  · rw [if_pos c1] at hf
    refine lv_aload_n hx hb d_Mod_substitute_173 rfl (lv_at hl 0 rfl) ?_
    obtain ⟨x7, ex7, hf⟩ := z_bs hf
    refine z_getF X hI (k := 22) (ci := 12) (gR_s ex7) i_Mod rfl (by decide) wf_Mod_63 d_Mod_substitute_174 ?_
    refine lv_iload_n hx hb d_Mod_substitute_177 rfl (lv_at hl 1 rfl) ?_
    refine lv_iconst (v := 1) hx hb d_Mod_substitute_178 (by decide) ?_
    obtain ⟨h8, eh8, hf⟩ := z_bs hf
    refine z_zast X hI eh8 d_Mod_substitute_179 (fun H locs hI => ?_)
    refine lv_goto (tgt := 209) hx hb d_Mod_substitute_180 (by decide) ?_
    exact s_Mod_substitute_209 X hk70 v0 v1 v2 h8 _ _ _ hI (lv_sub hl [0, 1, 2] rfl) hf
def f_Mod_substitute_107 (N : Nat) (k70 : Nat → Int32 → Int32 → z_H → Option z_H) (v0 : Nat) (v1 : Int32) (v3 : Int32) (s0 : Int32) (h : z_H) : Option z_H :=
  if s0 = 0 then
  (some h)
  else
  (if v3 = 103 then
  (z_b (gR h v0 12 22) fun x10 =>
  z_b (aI h x10 3 v1) fun x11 =>
  if x11 = 0 then
  (f_Mod_substitute_167 N k70 v0 v1 s0 v3 h)
  else
  (f_Mod_substitute_158 N v0 h))
  else
  (if v3 = 112 then
  (z_b (gR h v0 12 23) fun x7 =>
  z_b (aI h x7 3 v1) fun x8 =>
  if x8 = 0 then
  (f_Mod_substitute_167 N k70 v0 v1 s0 v3 h)
  else
  (f_Mod_substitute_158 N v0 h))
  else
  (z_b (gR h v0 12 19) fun x4 =>
  z_b (aI h x4 0 v1) fun x5 =>
  if x5 ≤ 0 then
  (f_Mod_substitute_167 N k70 v0 v1 s0 v3 h)
  else
  (f_Mod_substitute_158 N v0 h))))
set_option maxRecDepth 20000 in
set_option maxHeartbeats 2000000 in
theorem s_Mod_substitute_107 (X : z_X p s m args meth c prog_14_method_27_code 4 none Ts "StreamForgeModel" D dA B) {N : Nat} {h' : z_H} {k70 : Nat → Int32 → Int32 → z_H → Option z_H} (hk70 : ∀ (v0 : Nat) (v1 : Int32) (v2 : Int32) (h : z_H) (H : Heap) (locs : List Loc) (ls : Array Slot), z_I D dA B h s.heap H locs → lv_has ls 4 [(0, .ref v0), (1, .int v1), (2, .int v2)] → k70 v0 v1 v2 h = some h' → W p l e (z_rm 4 95) s m args below meth c H locs 0 0 (MQ below (z_Q D dA B none h') args s 0 0 (fun q => B ≤ q)) (F0 m 70 ls [])) : ∀ (v0 : Nat) (v1 : Int32) (v3 : Int32) (s0 : Int32) (h : z_H) (H : Heap) (locs : List Loc) (ls : Array Slot), z_I D dA B h s.heap H locs → lv_has ls 4 [(0, .ref v0), (1, .int v1), (3, .int v3)] → f_Mod_substitute_107 N k70 v0 v1 v3 s0 h = some h' → W p l e (z_rm 4 95) s m args below meth c H locs 0 0 (MQ below (z_Q D dA B none h') args s 0 0 (fun q => B ≤ q)) (F0 m 107 ls [.int s0]) := by
  have hx := z_hx X
  have hb := z_hb X
  intro v0 v1 v3 s0 h H locs ls hI hl hf
  unfold f_Mod_substitute_107 at hf
  refine lv_istore_n (lv' := [(2, .int s0), (0, .ref v0), (1, .int v1), (3, .int v3)]) hx hb d_Mod_substitute_107 rfl hl (by decide) rfl (fun ls hl => ?_)
  refine lv_iload_n hx hb d_Mod_substitute_108 rfl (lv_at hl 0 rfl) ?_
  refine lv_if_ne (tgt := 113) hx hb d_Mod_substitute_109 (by decide) (fun c1 => ?_) (fun c1 => ?_)
  · rw [if_neg c1] at hf
    refine lv_iload_n hx hb d_Mod_substitute_113 rfl (lv_at hl 3 rfl) ?_
    refine lv_bipush (v := 103) hx hb d_Mod_substitute_114 (by decide) ?_
    refine lv_icmp_ne (tgt := 131) hx hb d_Mod_substitute_116 (by decide) (fun c2 => ?_) (fun c2 => ?_)
    · rw [if_neg c2] at hf
      refine lv_iload_n hx hb d_Mod_substitute_131 rfl (lv_at hl 3 rfl) ?_
      refine lv_bipush (v := 112) hx hb d_Mod_substitute_132 (by decide) ?_
      refine lv_icmp_ne (tgt := 149) hx hb d_Mod_substitute_134 (by decide) (fun c3 => ?_) (fun c3 => ?_)
      · rw [if_neg c3] at hf
        refine lv_aload_n hx hb d_Mod_substitute_149 rfl (lv_at hl 1 rfl) ?_
        obtain ⟨x4, ex4, hf⟩ := z_bs hf
        refine z_getF X hI (k := 19) (ci := 12) (gR_s ex4) i_Mod rfl (by decide) wf_Mod_53 d_Mod_substitute_150 ?_
        refine lv_iload_n hx hb d_Mod_substitute_153 rfl (lv_at hl 2 rfl) ?_
        obtain ⟨x5, ex5, hf⟩ := z_bs hf
        refine z_iald X hI ex5 d_Mod_substitute_154 ?_
        refine lv_if_le (tgt := 167) hx hb d_Mod_substitute_155 (by decide) (fun c6 => ?_) (fun c6 => ?_)
        · rw [if_pos c6] at hf
          exact s_Mod_substitute_167 X hk70 v0 v1 s0 v3 h _ _ _ hI (lv_sub hl [1, 2, 0, 3] rfl) hf
        · rw [if_neg c6] at hf
          exact s_Mod_substitute_158 X  v0 h _ _ _ hI (lv_sub hl [1] rfl) hf
      · rw [if_pos c3] at hf
        refine lv_aload_n hx hb d_Mod_substitute_137 rfl (lv_at hl 1 rfl) ?_
        obtain ⟨x7, ex7, hf⟩ := z_bs hf
        refine z_getF X hI (k := 23) (ci := 12) (gR_s ex7) i_Mod rfl (by decide) wf_Mod_66 d_Mod_substitute_138 ?_
        refine lv_iload_n hx hb d_Mod_substitute_141 rfl (lv_at hl 2 rfl) ?_
        obtain ⟨x8, ex8, hf⟩ := z_bs hf
        refine z_zald X hI ex8 d_Mod_substitute_142 ?_
        refine lv_if_eq (tgt := 167) hx hb d_Mod_substitute_143 (by decide) (fun c9 => ?_) (fun c9 => ?_)
        · rw [if_pos c9] at hf
          exact s_Mod_substitute_167 X hk70 v0 v1 s0 v3 h _ _ _ hI (lv_sub hl [1, 2, 0, 3] rfl) hf
        · rw [if_neg c9] at hf
          refine lv_goto (tgt := 158) hx hb d_Mod_substitute_146 (by decide) ?_
          exact s_Mod_substitute_158 X  v0 h _ _ _ hI (lv_sub hl [1] rfl) hf
    · rw [if_pos c2] at hf
      refine lv_aload_n hx hb d_Mod_substitute_119 rfl (lv_at hl 1 rfl) ?_
      obtain ⟨x10, ex10, hf⟩ := z_bs hf
      refine z_getF X hI (k := 22) (ci := 12) (gR_s ex10) i_Mod rfl (by decide) wf_Mod_63 d_Mod_substitute_120 ?_
      refine lv_iload_n hx hb d_Mod_substitute_123 rfl (lv_at hl 2 rfl) ?_
      obtain ⟨x11, ex11, hf⟩ := z_bs hf
      refine z_zald X hI ex11 d_Mod_substitute_124 ?_
      refine lv_if_eq (tgt := 167) hx hb d_Mod_substitute_125 (by decide) (fun c12 => ?_) (fun c12 => ?_)
      · rw [if_pos c12] at hf
        exact s_Mod_substitute_167 X hk70 v0 v1 s0 v3 h _ _ _ hI (lv_sub hl [1, 2, 0, 3] rfl) hf
      · rw [if_neg c12] at hf
        refine lv_goto (tgt := 158) hx hb d_Mod_substitute_128 (by decide) ?_
        exact s_Mod_substitute_158 X  v0 h _ _ _ hI (lv_sub hl [1] rfl) hf
  · rw [if_pos c1] at hf
    cases hf
    exact z_vret X hI d_Mod_substitute_112
def f_Mod_substitute_70 (N : Nat)  : Nat → Nat → Int32 → Int32 → z_H → Option z_H
  | 0, _, _, _, _ => none
  | n + 1, v0, v1, v2, h =>
    if v2 = 0 then
    (some h)
    else
    (z_b (gO h v0 12) fun u2 =>
    z_b (f_Mod_here N v0 h) fun r3 =>
    z_b (some (r3.1)) fun x4 =>
    if x4 = 103 then
    (f_Mod_substitute_107 N (f_Mod_substitute_70 N  n) v0 v1 x4 1 r3.2)
    else
    (if x4 = 112 then
    (f_Mod_substitute_107 N (f_Mod_substitute_70 N  n) v0 v1 x4 1 r3.2)
    else
    (z_b (f_Mod_in N x4 49 57 r3.2) fun r7 =>
    if (r7.1) = 0 then
    (f_Mod_substitute_107 N (f_Mod_substitute_70 N  n) v0 v1 x4 0 r7.2)
    else
    (f_Mod_substitute_107 N (f_Mod_substitute_70 N  n) v0 v1 x4 1 r7.2))))
set_option maxRecDepth 20000 in
set_option maxHeartbeats 2000000 in
theorem s_Mod_substitute_70 (X : z_X p s m args meth c prog_14_method_27_code 4 none Ts "StreamForgeModel" D dA B) {N : Nat} {h' : z_H}   : ∀ n : Nat, ∀ (v0 : Nat) (v1 : Int32) (v2 : Int32) (h : z_H) (H : Heap) (locs : List Loc) (ls : Array Slot), z_I D dA B h s.heap H locs → lv_has ls 4 [(0, .ref v0), (1, .int v1), (2, .int v2)] → f_Mod_substitute_70 N  n v0 v1 v2 h = some h' → W p l e (z_rm 4 95) s m args below meth c H locs 0 0 (MQ below (z_Q D dA B none h') args s 0 0 (fun q => B ≤ q)) (F0 m 70 ls []) := by
  have hx := z_hx X
  have hb := z_hb X
  intro n
  induction n with
  | zero => intro v0 v1 v2 h H locs ls hI hl hf; rw [f_Mod_substitute_70] at hf; cases hf
  | succ n ih =>
    intro v0 v1 v2 h H locs ls hI hl hf
    rw [f_Mod_substitute_70] at hf
    refine lv_iload_n hx hb d_Mod_substitute_70 rfl (lv_at hl 2 rfl) ?_
    refine lv_if_eq (tgt := 222) hx hb d_Mod_substitute_71 (by decide) (fun c1 => ?_) (fun c1 => ?_)
    · rw [if_pos c1] at hf
      cases hf
      exact z_vret X hI d_Mod_substitute_222
    · rw [if_neg c1] at hf
      refine lv_aload_n hx hb d_Mod_substitute_74 rfl (lv_at hl 0 rfl) ?_
      obtain ⟨u2, eu2, hf⟩ := z_bs hf
      obtain ⟨r3, er3, hf⟩ := z_bs hf
      refine z_callV (As := []) (rest := []) (r := (some (.int r3.1))) (h' := r3.2) X hI eu2 (s_Mod_here er3) rfl rfl wm_Mod_183 yi_Mod_here rfl hl.1 rfl (Nat.le_of_ble_eq_true rfl) (by decide) (by decide) d_Mod_substitute_75 (fun H locs hI => ?_)
      refine W.eq (g2 := F0 m 78 ls [.int (r3.1)]) rfl ?_
      obtain ⟨x4, ex4, hf⟩ := z_bs hf
      refine z_topi (Option.some.inj ex4) ?_
      refine lv_istore_n (lv' := [(3, .int x4), (0, .ref v0), (1, .int v1), (2, .int v2)]) hx hb d_Mod_substitute_78 rfl hl (by decide) rfl (fun ls hl => ?_)
      refine lv_iload_n hx hb d_Mod_substitute_79 rfl (lv_at hl 0 rfl) ?_
      refine lv_bipush (v := 103) hx hb d_Mod_substitute_80 (by decide) ?_
      refine lv_icmp_eq (tgt := 102) hx hb d_Mod_substitute_82 (by decide) (fun c5 => ?_) (fun c5 => ?_)
      · rw [if_pos c5] at hf
        refine lv_iconst (v := 1) hx hb d_Mod_substitute_102 (by decide) ?_
        refine lv_goto (tgt := 107) hx hb d_Mod_substitute_103 (by decide) ?_
        exact s_Mod_substitute_107 X ih v0 v1 x4 1 r3.2 _ _ _ hI (lv_sub hl [1, 2, 0] rfl) hf
      · rw [if_neg c5] at hf
        refine lv_iload_n hx hb d_Mod_substitute_85 rfl (lv_at hl 0 rfl) ?_
        refine lv_bipush (v := 112) hx hb d_Mod_substitute_86 (by decide) ?_
        refine lv_icmp_eq (tgt := 102) hx hb d_Mod_substitute_88 (by decide) (fun c6 => ?_) (fun c6 => ?_)
        · rw [if_pos c6] at hf
          refine lv_iconst (v := 1) hx hb d_Mod_substitute_102 (by decide) ?_
          refine lv_goto (tgt := 107) hx hb d_Mod_substitute_103 (by decide) ?_
          exact s_Mod_substitute_107 X ih v0 v1 x4 1 r3.2 _ _ _ hI (lv_sub hl [1, 2, 0] rfl) hf
        · rw [if_neg c6] at hf
          refine lv_iload_n hx hb d_Mod_substitute_91 rfl (lv_at hl 0 rfl) ?_
          refine lv_bipush (v := 49) hx hb d_Mod_substitute_92 (by decide) ?_
          refine lv_bipush (v := 57) hx hb d_Mod_substitute_94 (by decide) ?_
          obtain ⟨r7, er7, hf⟩ := z_bs hf
          refine z_callS (As := [.int x4, .int 49, .int 57]) (rest := []) (r := (some (.int r7.1))) (h' := r7.2) X hI (s_Mod_in er7) rfl wm_Mod_154 yi_Mod_in rfl hl.1 rfl (Nat.le_of_ble_eq_true rfl) (by decide) (by decide) d_Mod_substitute_96 (fun H locs hI => ?_)
          refine W.eq (g2 := F0 m 99 ls [.int (r7.1)]) rfl ?_
          refine lv_if_eq (tgt := 106) hx hb d_Mod_substitute_99 (by decide) (fun c8 => ?_) (fun c8 => ?_)
          · rw [if_pos c8] at hf
            refine lv_iconst (v := 0) hx hb d_Mod_substitute_106 (by decide) ?_
            exact s_Mod_substitute_107 X ih v0 v1 x4 0 r7.2 _ _ _ hI (lv_sub hl [1, 2, 0] rfl) hf
          · rw [if_neg c8] at hf
            refine lv_iconst (v := 1) hx hb d_Mod_substitute_102 (by decide) ?_
            refine lv_goto (tgt := 107) hx hb d_Mod_substitute_103 (by decide) ?_
            exact s_Mod_substitute_107 X ih v0 v1 x4 1 r7.2 _ _ _ hI (lv_sub hl [1, 2, 0] rfl) hf
def f_Mod_substitute_36 (N : Nat)  (v0 : Nat) (v1 : Int32) (h : z_H) : Option z_H :=
  z_b (gR h v0 12 19) fun x1 =>
  z_b (uI h x1 0 v1 0) fun h2 =>
  z_b (gR h2 v0 12 22) fun x3 =>
  z_b (uI h2 x3 3 v1 (vp_nar .boolean 0)) fun h4 =>
  z_b (gR h4 v0 12 23) fun x5 =>
  z_b (uI h4 x5 3 v1 (vp_nar .boolean 0)) fun h6 =>
  z_b (gI h6 v0 12 48) fun x7 =>
  if x7 = 0 then
  (f_Mod_substitute_70 N N v0 v1 1 h6)
  else
  (f_Mod_substitute_70 N N v0 v1 0 h6)
set_option maxRecDepth 20000 in
set_option maxHeartbeats 2000000 in
theorem s_Mod_substitute_36 (X : z_X p s m args meth c prog_14_method_27_code 4 none Ts "StreamForgeModel" D dA B) {N : Nat} {h' : z_H}   : ∀ (v0 : Nat) (v1 : Int32) (h : z_H) (H : Heap) (locs : List Loc) (ls : Array Slot), z_I D dA B h s.heap H locs → lv_has ls 4 [(0, .ref v0), (1, .int v1)] → f_Mod_substitute_36 N  v0 v1 h = some h' → W p l e (z_rm 4 95) s m args below meth c H locs 0 0 (MQ below (z_Q D dA B none h') args s 0 0 (fun q => B ≤ q)) (F0 m 36 ls []) := by
  have hx := z_hx X
  have hb := z_hb X
  intro v0 v1 h H locs ls hI hl hf
  unfold f_Mod_substitute_36 at hf
  refine lv_aload_n hx hb d_Mod_substitute_36 rfl (lv_at hl 0 rfl) ?_
  obtain ⟨x1, ex1, hf⟩ := z_bs hf
  refine z_getF X hI (k := 19) (ci := 12) (gR_s ex1) i_Mod rfl (by decide) wf_Mod_53 d_Mod_substitute_37 ?_
  refine lv_iload_n hx hb d_Mod_substitute_40 rfl (lv_at hl 1 rfl) ?_
  refine lv_iconst (v := 0) hx hb d_Mod_substitute_41 (by decide) ?_
  obtain ⟨h2, eh2, hf⟩ := z_bs hf
  refine z_iast X hI eh2 d_Mod_substitute_42 (fun H locs hI => ?_)
  refine lv_aload_n hx hb d_Mod_substitute_43 rfl (lv_at hl 0 rfl) ?_
  obtain ⟨x3, ex3, hf⟩ := z_bs hf
  refine z_getF X hI (k := 22) (ci := 12) (gR_s ex3) i_Mod rfl (by decide) wf_Mod_63 d_Mod_substitute_44 ?_
  refine lv_iload_n hx hb d_Mod_substitute_47 rfl (lv_at hl 1 rfl) ?_
  refine lv_iconst (v := 0) hx hb d_Mod_substitute_48 (by decide) ?_
  obtain ⟨h4, eh4, hf⟩ := z_bs hf
  refine z_zast X hI eh4 d_Mod_substitute_49 (fun H locs hI => ?_)
  refine lv_aload_n hx hb d_Mod_substitute_50 rfl (lv_at hl 0 rfl) ?_
  obtain ⟨x5, ex5, hf⟩ := z_bs hf
  refine z_getF X hI (k := 23) (ci := 12) (gR_s ex5) i_Mod rfl (by decide) wf_Mod_66 d_Mod_substitute_51 ?_
  refine lv_iload_n hx hb d_Mod_substitute_54 rfl (lv_at hl 1 rfl) ?_
  refine lv_iconst (v := 0) hx hb d_Mod_substitute_55 (by decide) ?_
  obtain ⟨h6, eh6, hf⟩ := z_bs hf
  refine z_zast X hI eh6 d_Mod_substitute_56 (fun H locs hI => ?_)
  refine lv_aload_n hx hb d_Mod_substitute_57 rfl (lv_at hl 0 rfl) ?_
  obtain ⟨x7, ex7, hf⟩ := z_bs hf
  refine z_getF X hI (k := 48) (ci := 12) (gI_s ex7) i_Mod rfl (by decide) wf_Mod_179 d_Mod_substitute_58 ?_
  refine lv_if_ne (tgt := 68) hx hb d_Mod_substitute_61 (by decide) (fun c8 => ?_) (fun c8 => ?_)
  · rw [if_neg c8] at hf
    refine lv_iconst (v := 0) hx hb d_Mod_substitute_68 (by decide) ?_
    refine lv_istore_n (lv' := [(2, .int 0), (0, .ref v0), (1, .int v1)]) hx hb d_Mod_substitute_69 rfl hl (by decide) rfl (fun ls hl => ?_)
    exact s_Mod_substitute_70 X  N v0 v1 0 h6 _ _ _ hI (lv_sub hl [1, 2, 0] rfl) hf
  · rw [if_pos c8] at hf
    refine lv_iconst (v := 1) hx hb d_Mod_substitute_64 (by decide) ?_
    refine lv_goto (tgt := 69) hx hb d_Mod_substitute_65 (by decide) ?_
    refine lv_istore_n (lv' := [(2, .int 1), (0, .ref v0), (1, .int v1)]) hx hb d_Mod_substitute_69 rfl hl (by decide) rfl (fun ls hl => ?_)
    exact s_Mod_substitute_70 X  N v0 v1 1 h6 _ _ _ hI (lv_sub hl [1, 2, 0] rfl) hf
def f_Mod_substitute (N : Nat) (v0 : Nat) (v1 : Int32) (h : z_H) : Option z_H :=
  z_b (gO h v0 12) fun u1 =>
  z_b (f_Mod_expect N v0 47 h) fun r2 =>
  z_b (gI r2 v0 12 48) fun x3 =>
  if x3 = 0 then
  (z_b (gR r2 v0 12 14) fun x5 =>
  z_b (gO r2 v0 12) fun u6 =>
  z_b (f_Mod_readPattern N v0 r2) fun r7 =>
  z_b (uI r7.2 x5 0 v1 (r7.1)) fun h8 =>
  z_b (gI h8 v0 12 48) fun x9 =>
  if x9 = 0 then
  (z_b (gO h8 v0 12) fun u11 =>
  z_b (f_Mod_replacement N v0 v1 h8) fun r12 =>
  f_Mod_substitute_36 N v0 v1 r12)
  else
  (f_Mod_substitute_36 N v0 v1 h8))
  else
  (some r2)
set_option maxRecDepth 20000 in
set_option maxHeartbeats 2000000 in
theorem s_Mod_substitute {l : Launch} {D : va_G} {dA : Nat → ClassId} {B N : Nat} {v0 : Nat} {v1 : Int32} {h h' : z_H} (hf : f_Mod_substitute N v0 v1 h = some h') : z_Met l y_Mod_substitute prog_14_method_27_code 4 none 4 95 D dA B [.ref v0, .int v1] h none h' := by
  refine z_of (by decide) (Nat.le_of_ble_eq_true rfl) (fun p e s m below meth c ls X hI hl => ?_)
  have hx := z_hx X
  have hb := z_hb X
  have hl : lv_has ls 4 [(0, .ref v0), (1, .int v1)] := hl
  unfold f_Mod_substitute at hf
  obtain ⟨locs, hlo⟩ : ∃ z : List Loc, z = [] := ⟨_, rfl⟩
  rw [← hlo] at hI ⊢
  refine lv_aload_n hx hb d_Mod_substitute_0 rfl (lv_at hl 0 rfl) ?_
  refine lv_bipush (v := 47) hx hb d_Mod_substitute_1 (by decide) ?_
  obtain ⟨u1, eu1, hf⟩ := z_bs hf
  obtain ⟨r2, er2, hf⟩ := z_bs hf
  refine z_callV (As := [.int 47]) (rest := []) (r := none) (h' := r2) X hI eu1 (s_Mod_expect er2) rfl rfl wm_Mod_246 yi_Mod_expect rfl hl.1 rfl (Nat.le_of_ble_eq_true rfl) (by decide) (by decide) d_Mod_substitute_3 (fun H locs hI => ?_)
  refine W.eq (g2 := F0 m 6 ls []) rfl ?_
  refine lv_aload_n hx hb d_Mod_substitute_6 rfl (lv_at hl 0 rfl) ?_
  obtain ⟨x3, ex3, hf⟩ := z_bs hf
  refine z_getF X hI (k := 48) (ci := 12) (gI_s ex3) i_Mod rfl (by decide) wf_Mod_179 d_Mod_substitute_7 ?_
  refine lv_if_eq (tgt := 14) hx hb d_Mod_substitute_10 (by decide) (fun c4 => ?_) (fun c4 => ?_)
  · rw [if_pos c4] at hf
    refine lv_aload_n hx hb d_Mod_substitute_14 rfl (lv_at hl 0 rfl) ?_
    obtain ⟨x5, ex5, hf⟩ := z_bs hf
    refine z_getF X hI (k := 14) (ci := 12) (gR_s ex5) i_Mod rfl (by decide) wf_Mod_38 d_Mod_substitute_15 ?_
    refine lv_iload_n hx hb d_Mod_substitute_18 rfl (lv_at hl 1 rfl) ?_
    refine lv_aload_n hx hb d_Mod_substitute_19 rfl (lv_at hl 0 rfl) ?_
    obtain ⟨u6, eu6, hf⟩ := z_bs hf
    obtain ⟨r7, er7, hf⟩ := z_bs hf
    refine z_callV (As := []) (rest := [.int v1, .ref x5]) (r := (some (.int r7.1))) (h' := r7.2) X hI eu6 (s_Mod_readPattern er7) rfl rfl wm_Mod_237 yi_Mod_readPattern rfl hl.1 rfl (Nat.le_of_ble_eq_true rfl) (by decide) (by decide) d_Mod_substitute_20 (fun H locs hI => ?_)
    refine W.eq (g2 := F0 m 23 ls [.int (r7.1), .int v1, .ref x5]) rfl ?_
    obtain ⟨h8, eh8, hf⟩ := z_bs hf
    refine z_iast X hI eh8 d_Mod_substitute_23 (fun H locs hI => ?_)
    refine lv_aload_n hx hb d_Mod_substitute_24 rfl (lv_at hl 0 rfl) ?_
    obtain ⟨x9, ex9, hf⟩ := z_bs hf
    refine z_getF X hI (k := 48) (ci := 12) (gI_s ex9) i_Mod rfl (by decide) wf_Mod_179 d_Mod_substitute_25 ?_
    refine lv_if_ne (tgt := 36) hx hb d_Mod_substitute_28 (by decide) (fun c10 => ?_) (fun c10 => ?_)
    · rw [if_neg c10] at hf
      exact s_Mod_substitute_36 X  v0 v1 h8 _ _ _ hI (lv_sub hl [0, 1] rfl) hf
    · rw [if_pos c10] at hf
      refine lv_aload_n hx hb d_Mod_substitute_31 rfl (lv_at hl 0 rfl) ?_
      refine lv_iload_n hx hb d_Mod_substitute_32 rfl (lv_at hl 1 rfl) ?_
      obtain ⟨u11, eu11, hf⟩ := z_bs hf
      obtain ⟨r12, er12, hf⟩ := z_bs hf
      refine z_callV (As := [.int v1]) (rest := []) (r := none) (h' := r12) X hI eu11 (s_Mod_replacement er12) rfl rfl wm_Mod_249 yi_Mod_replacement rfl hl.1 rfl (Nat.le_of_ble_eq_true rfl) (by decide) (by decide) d_Mod_substitute_33 (fun H locs hI => ?_)
      refine W.eq (g2 := F0 m 36 ls []) rfl ?_
      exact s_Mod_substitute_36 X  v0 v1 r12 _ _ _ hI (lv_sub hl [0, 1] rfl) hf
  · rw [if_neg c4] at hf
    cases hf
    exact z_vret X hI d_Mod_substitute_13
def f_Mod_exchange_120 (N : Nat) (k16 : Nat → Int32 → z_H → Option z_H) (v0 : Nat) (v1 : Int32) (v2 : Int32) (h : z_H) : Option z_H :=
  z_b (gO h v0 12) fun u1 =>
  z_b (f_Mod_keep N v0 v2 h) fun r2 =>
  z_b (gI r2 v0 12 41) fun x3 =>
  z_b (sF r2 v0 12 41 (.int (x3 + 1))) fun h4 =>
  k16 v0 v1 h4
set_option maxRecDepth 20000 in
set_option maxHeartbeats 2000000 in
theorem s_Mod_exchange_120 (X : z_X p s m args meth c prog_14_method_28_code 5 none Ts "StreamForgeModel" D dA B) {N : Nat} {h' : z_H} {k16 : Nat → Int32 → z_H → Option z_H} (hk16 : ∀ (v0 : Nat) (v1 : Int32) (h : z_H) (H : Heap) (locs : List Loc) (ls : Array Slot), z_I D dA B h s.heap H locs → lv_has ls 5 [(0, .ref v0), (1, .int v1)] → k16 v0 v1 h = some h' → W p l e (z_rm 2 42) s m args below meth c H locs 0 0 (MQ below (z_Q D dA B none h') args s 0 0 (fun q => B ≤ q)) (F0 m 16 ls [])) : ∀ (v0 : Nat) (v1 : Int32) (v2 : Int32) (h : z_H) (H : Heap) (locs : List Loc) (ls : Array Slot), z_I D dA B h s.heap H locs → lv_has ls 5 [(0, .ref v0), (1, .int v1), (2, .int v2)] → f_Mod_exchange_120 N k16 v0 v1 v2 h = some h' → W p l e (z_rm 2 42) s m args below meth c H locs 0 0 (MQ below (z_Q D dA B none h') args s 0 0 (fun q => B ≤ q)) (F0 m 120 ls []) := by
  have hx := z_hx X
  have hb := z_hb X
  intro v0 v1 v2 h H locs ls hI hl hf
  unfold f_Mod_exchange_120 at hf
  refine lv_aload_n hx hb d_Mod_exchange_120 rfl (lv_at hl 0 rfl) ?_
  refine lv_iload_n hx hb d_Mod_exchange_121 rfl (lv_at hl 2 rfl) ?_
  obtain ⟨u1, eu1, hf⟩ := z_bs hf
  obtain ⟨r2, er2, hf⟩ := z_bs hf
  refine z_callV (As := [.int v2]) (rest := []) (r := none) (h' := r2) X hI eu1 (s_Mod_keep er2) rfl rfl wm_Mod_243 yi_Mod_keep rfl hl.1 rfl (Nat.le_of_ble_eq_true rfl) (by decide) (by decide) d_Mod_exchange_122 (fun H locs hI => ?_)
  refine W.eq (g2 := F0 m 125 ls []) rfl ?_
  refine lv_aload_n hx hb d_Mod_exchange_125 rfl (lv_at hl 0 rfl) ?_
  refine lv_dup hx hb d_Mod_exchange_126 rfl ?_
  obtain ⟨x3, ex3, hf⟩ := z_bs hf
  refine z_getF X hI (k := 41) (ci := 12) (gI_s ex3) i_Mod rfl (by decide) wf_Mod_176 d_Mod_exchange_127 ?_
  refine lv_iconst (v := 1) hx hb d_Mod_exchange_130 (by decide) ?_
  refine lv_iadd hx hb d_Mod_exchange_131 ?_
  obtain ⟨h4, eh4, hf⟩ := z_bs hf
  refine z_putF X hI (k := 41) (ci := 12) (ty0 := t_Mod) eh4 i_Mod t_Mod_ok n_Mod rfl (by decide) wf_Mod_176 rfl rfl rfl d_Mod_exchange_132 (fun H locs hI => ?_)
  refine lv_goto (tgt := 16) hx hb d_Mod_exchange_135 (by decide) ?_
  exact hk16 v0 v1 h4 _ _ _ hI (lv_sub hl [0, 1] rfl) hf
def f_Mod_exchange_81 (N : Nat) (k16 : Nat → Int32 → z_H → Option z_H) : Nat → Nat → Int32 → Int32 → Int32 → z_H → Option z_H
  | 0, _, _, _, _, _ => none
  | n + 1, v0, v1, v2, v3, h =>
    z_b (gO h v0 12) fun u1 =>
    z_b (f_Mod_stored N v0 h) fun r2 =>
    if (r2.1) ≤ v3 then
    (f_Mod_exchange_120 N k16 v0 v1 v2 r2.2)
    else
    (z_b (gI r2.2 v0 12 48) fun x4 =>
    if x4 = 0 then
    (z_b (gR r2.2 v0 12 33) fun x6 =>
    z_b (aI r2.2 x6 0 v3) fun x7 =>
    if x7 = v2 then
    (z_b (gI r2.2 v0 12 41) fun x10 =>
    z_b (gO r2.2 v0 12) fun u11 =>
    z_b (f_Mod_wrong N v0 x10 r2.2) fun r12 =>
    z_b (some (v3 + 1)) fun x13 =>
    (f_Mod_exchange_81 N k16 n) v0 v1 v2 x13 r12)
    else
    (z_b (some (v3 + 1)) fun x9 =>
    (f_Mod_exchange_81 N k16 n) v0 v1 v2 x9 r2.2))
    else
    (f_Mod_exchange_120 N k16 v0 v1 v2 r2.2))
set_option maxRecDepth 20000 in
set_option maxHeartbeats 2000000 in
theorem s_Mod_exchange_81 (X : z_X p s m args meth c prog_14_method_28_code 5 none Ts "StreamForgeModel" D dA B) {N : Nat} {h' : z_H} {k16 : Nat → Int32 → z_H → Option z_H} (hk16 : ∀ (v0 : Nat) (v1 : Int32) (h : z_H) (H : Heap) (locs : List Loc) (ls : Array Slot), z_I D dA B h s.heap H locs → lv_has ls 5 [(0, .ref v0), (1, .int v1)] → k16 v0 v1 h = some h' → W p l e (z_rm 2 42) s m args below meth c H locs 0 0 (MQ below (z_Q D dA B none h') args s 0 0 (fun q => B ≤ q)) (F0 m 16 ls [])) : ∀ n : Nat, ∀ (v0 : Nat) (v1 : Int32) (v2 : Int32) (v3 : Int32) (h : z_H) (H : Heap) (locs : List Loc) (ls : Array Slot), z_I D dA B h s.heap H locs → lv_has ls 5 [(0, .ref v0), (1, .int v1), (2, .int v2), (3, .int v3)] → f_Mod_exchange_81 N k16 n v0 v1 v2 v3 h = some h' → W p l e (z_rm 2 42) s m args below meth c H locs 0 0 (MQ below (z_Q D dA B none h') args s 0 0 (fun q => B ≤ q)) (F0 m 81 ls []) := by
  have hx := z_hx X
  have hb := z_hb X
  intro n
  induction n with
  | zero => intro v0 v1 v2 v3 h H locs ls hI hl hf; rw [f_Mod_exchange_81] at hf; cases hf
  | succ n ih =>
    intro v0 v1 v2 v3 h H locs ls hI hl hf
    rw [f_Mod_exchange_81] at hf
    refine lv_iload_n hx hb d_Mod_exchange_81 rfl (lv_at hl 3 rfl) ?_
    refine lv_aload_n hx hb d_Mod_exchange_82 rfl (lv_at hl 0 rfl) ?_
    obtain ⟨u1, eu1, hf⟩ := z_bs hf
    obtain ⟨r2, er2, hf⟩ := z_bs hf
    refine z_callV (As := []) (rest := [.int v3]) (r := (some (.int r2.1))) (h' := r2.2) X hI eu1 (s_Mod_stored er2) rfl rfl wm_Mod_240 yi_Mod_stored rfl hl.1 rfl (Nat.le_of_ble_eq_true rfl) (by decide) (by decide) d_Mod_exchange_83 (fun H locs hI => ?_)
    refine W.eq (g2 := F0 m 86 ls [.int (r2.1), .int v3]) rfl ?_
    refine lv_icmp_ge (tgt := 120) hx hb d_Mod_exchange_86 (by decide) (fun c3 => ?_) (fun c3 => ?_)
    · rw [if_pos c3] at hf
      exact s_Mod_exchange_120 X hk16 v0 v1 v2 r2.2 _ _ _ hI (lv_sub hl [0, 1, 2] rfl) hf
    · rw [if_neg c3] at hf
      refine lv_aload_n hx hb d_Mod_exchange_89 rfl (lv_at hl 0 rfl) ?_
      obtain ⟨x4, ex4, hf⟩ := z_bs hf
      refine z_getF X hI (k := 48) (ci := 12) (gI_s ex4) i_Mod rfl (by decide) wf_Mod_179 d_Mod_exchange_90 ?_
      refine lv_if_ne (tgt := 120) hx hb d_Mod_exchange_93 (by decide) (fun c5 => ?_) (fun c5 => ?_)
      · rw [if_neg c5] at hf
        exact s_Mod_exchange_120 X hk16 v0 v1 v2 r2.2 _ _ _ hI (lv_sub hl [0, 1, 2] rfl) hf
      · rw [if_pos c5] at hf
        refine lv_aload_n hx hb d_Mod_exchange_96 rfl (lv_at hl 0 rfl) ?_
        obtain ⟨x6, ex6, hf⟩ := z_bs hf
        refine z_getF X hI (k := 33) (ci := 12) (gR_s ex6) i_Mod rfl (by decide) wf_Mod_96 d_Mod_exchange_97 ?_
        refine lv_iload_n hx hb d_Mod_exchange_100 rfl (lv_at hl 3 rfl) ?_
        obtain ⟨x7, ex7, hf⟩ := z_bs hf
        refine z_iald X hI ex7 d_Mod_exchange_101 ?_
        refine lv_iload_n hx hb d_Mod_exchange_102 rfl (lv_at hl 2 rfl) ?_
        refine lv_icmp_ne (tgt := 114) hx hb d_Mod_exchange_103 (by decide) (fun c8 => ?_) (fun c8 => ?_)
        · rw [if_neg c8] at hf
          obtain ⟨x9, ex9, hf⟩ := z_bs hf
          refine lv_iinc (v := x9) (lv' := [(3, .int x9), (0, .ref v0), (1, .int v1), (2, .int v2)]) hx hb d_Mod_exchange_114 hl (k := 3) rfl (by rw [← Option.some.inj ex9]; rfl) (by decide) rfl (fun ls hl => ?_)
          refine lv_goto (tgt := 81) hx hb d_Mod_exchange_117 (by decide) ?_
          exact ih v0 v1 v2 x9 r2.2 _ _ _ hI (lv_sub hl [1, 2, 3, 0] rfl) hf
        · rw [if_pos c8] at hf
          refine lv_aload_n hx hb d_Mod_exchange_106 rfl (lv_at hl 0 rfl) ?_
          refine lv_aload_n hx hb d_Mod_exchange_107 rfl (lv_at hl 0 rfl) ?_
          obtain ⟨x10, ex10, hf⟩ := z_bs hf
          refine z_getF X hI (k := 41) (ci := 12) (gI_s ex10) i_Mod rfl (by decide) wf_Mod_176 d_Mod_exchange_108 ?_
          obtain ⟨u11, eu11, hf⟩ := z_bs hf
          obtain ⟨r12, er12, hf⟩ := z_bs hf
          refine z_callV (As := [.int x10]) (rest := []) (r := none) (h' := r12) X hI eu11 (s_Mod_wrong er12) rfl rfl wm_Mod_187 yi_Mod_wrong rfl hl.1 rfl (Nat.le_of_ble_eq_true rfl) (by decide) (by decide) d_Mod_exchange_111 (fun H locs hI => ?_)
          refine W.eq (g2 := F0 m 114 ls []) rfl ?_
          obtain ⟨x13, ex13, hf⟩ := z_bs hf
          refine lv_iinc (v := x13) (lv' := [(3, .int x13), (0, .ref v0), (1, .int v1), (2, .int v2)]) hx hb d_Mod_exchange_114 hl (k := 3) rfl (by rw [← Option.some.inj ex13]; rfl) (by decide) rfl (fun ls hl => ?_)
          refine lv_goto (tgt := 81) hx hb d_Mod_exchange_117 (by decide) ?_
          exact ih v0 v1 v2 x13 r12 _ _ _ hI (lv_sub hl [1, 2, 3, 0] rfl) hf
def f_Mod_exchange_74 (N : Nat) (k16 : Nat → Int32 → z_H → Option z_H) (v0 : Nat) (v1 : Int32) (v2 : Int32) (h : z_H) : Option z_H :=
  z_b (gR h v0 12 15) fun x1 =>
  z_b (aI h x1 0 v1) fun x2 =>
  f_Mod_exchange_81 N k16 N v0 v1 v2 x2 h
set_option maxRecDepth 20000 in
set_option maxHeartbeats 2000000 in
theorem s_Mod_exchange_74 (X : z_X p s m args meth c prog_14_method_28_code 5 none Ts "StreamForgeModel" D dA B) {N : Nat} {h' : z_H} {k16 : Nat → Int32 → z_H → Option z_H} (hk16 : ∀ (v0 : Nat) (v1 : Int32) (h : z_H) (H : Heap) (locs : List Loc) (ls : Array Slot), z_I D dA B h s.heap H locs → lv_has ls 5 [(0, .ref v0), (1, .int v1)] → k16 v0 v1 h = some h' → W p l e (z_rm 2 42) s m args below meth c H locs 0 0 (MQ below (z_Q D dA B none h') args s 0 0 (fun q => B ≤ q)) (F0 m 16 ls [])) : ∀ (v0 : Nat) (v1 : Int32) (v2 : Int32) (h : z_H) (H : Heap) (locs : List Loc) (ls : Array Slot), z_I D dA B h s.heap H locs → lv_has ls 5 [(0, .ref v0), (1, .int v1), (2, .int v2)] → f_Mod_exchange_74 N k16 v0 v1 v2 h = some h' → W p l e (z_rm 2 42) s m args below meth c H locs 0 0 (MQ below (z_Q D dA B none h') args s 0 0 (fun q => B ≤ q)) (F0 m 74 ls []) := by
  have hx := z_hx X
  have hb := z_hb X
  intro v0 v1 v2 h H locs ls hI hl hf
  unfold f_Mod_exchange_74 at hf
  refine lv_aload_n hx hb d_Mod_exchange_74 rfl (lv_at hl 0 rfl) ?_
  obtain ⟨x1, ex1, hf⟩ := z_bs hf
  refine z_getF X hI (k := 15) (ci := 12) (gR_s ex1) i_Mod rfl (by decide) wf_Mod_41 d_Mod_exchange_75 ?_
  refine lv_iload_n hx hb d_Mod_exchange_78 rfl (lv_at hl 1 rfl) ?_
  obtain ⟨x2, ex2, hf⟩ := z_bs hf
  refine z_iald X hI ex2 d_Mod_exchange_79 ?_
  refine lv_istore_n (lv' := [(3, .int x2), (0, .ref v0), (1, .int v1), (2, .int v2)]) hx hb d_Mod_exchange_80 rfl hl (by decide) rfl (fun ls hl => ?_)
  exact s_Mod_exchange_81 X hk16 N v0 v1 v2 x2 h _ _ _ hI (lv_sub hl [1, 2, 3, 0] rfl) hf
def f_Mod_exchange_71 (N : Nat) (k16 : Nat → Int32 → z_H → Option z_H) (v0 : Nat) (v1 : Int32) (v2 : Int32) (s0 : Nat) (s1 : Int32) (h : z_H) : Option z_H :=
  z_b (gO h s0 12) fun u1 =>
  z_b (f_Mod_wrong N s0 s1 h) fun r2 =>
  f_Mod_exchange_74 N k16 v0 v1 v2 r2
set_option maxRecDepth 20000 in
set_option maxHeartbeats 2000000 in
theorem s_Mod_exchange_71 (X : z_X p s m args meth c prog_14_method_28_code 5 none Ts "StreamForgeModel" D dA B) {N : Nat} {h' : z_H} {k16 : Nat → Int32 → z_H → Option z_H} (hk16 : ∀ (v0 : Nat) (v1 : Int32) (h : z_H) (H : Heap) (locs : List Loc) (ls : Array Slot), z_I D dA B h s.heap H locs → lv_has ls 5 [(0, .ref v0), (1, .int v1)] → k16 v0 v1 h = some h' → W p l e (z_rm 2 42) s m args below meth c H locs 0 0 (MQ below (z_Q D dA B none h') args s 0 0 (fun q => B ≤ q)) (F0 m 16 ls [])) : ∀ (v0 : Nat) (v1 : Int32) (v2 : Int32) (s0 : Nat) (s1 : Int32) (h : z_H) (H : Heap) (locs : List Loc) (ls : Array Slot), z_I D dA B h s.heap H locs → lv_has ls 5 [(0, .ref v0), (1, .int v1), (2, .int v2)] → f_Mod_exchange_71 N k16 v0 v1 v2 s0 s1 h = some h' → W p l e (z_rm 2 42) s m args below meth c H locs 0 0 (MQ below (z_Q D dA B none h') args s 0 0 (fun q => B ≤ q)) (F0 m 71 ls [.int s1, .ref s0]) := by
  have hx := z_hx X
  have hb := z_hb X
  intro v0 v1 v2 s0 s1 h H locs ls hI hl hf
  unfold f_Mod_exchange_71 at hf
  obtain ⟨u1, eu1, hf⟩ := z_bs hf
  obtain ⟨r2, er2, hf⟩ := z_bs hf
  refine z_callV (As := [.int s1]) (rest := []) (r := none) (h' := r2) X hI eu1 (s_Mod_wrong er2) rfl rfl wm_Mod_187 yi_Mod_wrong rfl hl.1 rfl (Nat.le_of_ble_eq_true rfl) (by decide) (by decide) d_Mod_exchange_71 (fun H locs hI => ?_)
  refine W.eq (g2 := F0 m 74 ls []) rfl ?_
  exact s_Mod_exchange_74 X hk16 v0 v1 v2 r2 _ _ _ hI (lv_sub hl [0, 1, 2] rfl) hf
def f_Mod_exchange_54 (N : Nat) (k16 : Nat → Int32 → z_H → Option z_H) (v0 : Nat) (v1 : Int32) (v2 : Int32) (h : z_H) : Option z_H :=
  if v2 = (-1) then
  (z_b (gI h v0 12 3) fun x3 =>
  f_Mod_exchange_71 N k16 v0 v1 v2 v0 x3 h)
  else
  (z_b (gI h v0 12 41) fun x2 =>
  f_Mod_exchange_71 N k16 v0 v1 v2 v0 x2 h)
set_option maxRecDepth 20000 in
set_option maxHeartbeats 2000000 in
theorem s_Mod_exchange_54 (X : z_X p s m args meth c prog_14_method_28_code 5 none Ts "StreamForgeModel" D dA B) {N : Nat} {h' : z_H} {k16 : Nat → Int32 → z_H → Option z_H} (hk16 : ∀ (v0 : Nat) (v1 : Int32) (h : z_H) (H : Heap) (locs : List Loc) (ls : Array Slot), z_I D dA B h s.heap H locs → lv_has ls 5 [(0, .ref v0), (1, .int v1)] → k16 v0 v1 h = some h' → W p l e (z_rm 2 42) s m args below meth c H locs 0 0 (MQ below (z_Q D dA B none h') args s 0 0 (fun q => B ≤ q)) (F0 m 16 ls [])) : ∀ (v0 : Nat) (v1 : Int32) (v2 : Int32) (h : z_H) (H : Heap) (locs : List Loc) (ls : Array Slot), z_I D dA B h s.heap H locs → lv_has ls 5 [(0, .ref v0), (1, .int v1), (2, .int v2)] → f_Mod_exchange_54 N k16 v0 v1 v2 h = some h' → W p l e (z_rm 2 42) s m args below meth c H locs 0 0 (MQ below (z_Q D dA B none h') args s 0 0 (fun q => B ≤ q)) (F0 m 54 ls []) := by
  have hx := z_hx X
  have hb := z_hb X
  intro v0 v1 v2 h H locs ls hI hl hf
  unfold f_Mod_exchange_54 at hf
  refine lv_aload_n hx hb d_Mod_exchange_54 rfl (lv_at hl 0 rfl) ?_
  refine lv_iload_n hx hb d_Mod_exchange_55 rfl (lv_at hl 2 rfl) ?_
  refine lv_iconst (v := (-1)) hx hb d_Mod_exchange_56 (by decide) ?_
  refine lv_icmp_ne (tgt := 67) hx hb d_Mod_exchange_57 (by decide) (fun c1 => ?_) (fun c1 => ?_)
  · rw [if_neg c1] at hf
    refine lv_aload_n hx hb d_Mod_exchange_67 rfl (lv_at hl 0 rfl) ?_
    obtain ⟨x2, ex2, hf⟩ := z_bs hf
    refine z_getF X hI (k := 41) (ci := 12) (gI_s ex2) i_Mod rfl (by decide) wf_Mod_176 d_Mod_exchange_68 ?_
    exact s_Mod_exchange_71 X hk16 v0 v1 v2 v0 x2 h _ _ _ hI (lv_sub hl [0, 1, 2] rfl) hf
  · rw [if_pos c1] at hf
    refine lv_aload_n hx hb d_Mod_exchange_60 rfl (lv_at hl 0 rfl) ?_
    obtain ⟨x3, ex3, hf⟩ := z_bs hf
    refine z_getF X hI (k := 3) (ci := 12) (gI_s ex3) i_Mod rfl (by decide) wf_Mod_166 d_Mod_exchange_61 ?_
    refine lv_goto (tgt := 71) hx hb d_Mod_exchange_64 (by decide) ?_
    exact s_Mod_exchange_71 X hk16 v0 v1 v2 v0 x3 h _ _ _ hI (lv_sub hl [0, 1, 2] rfl) hf
def f_Mod_exchange_252 (N : Nat) (k174 : Nat → Int32 → Int32 → Int32 → z_H → Option z_H) (v0 : Nat) (v1 : Int32) (v2 : Int32) (v3 : Int32) (v4 : Int32) (h : z_H) : Option z_H :=
  z_b (gO h v0 12) fun u1 =>
  z_b (f_Mod_keep N v0 v4 h) fun r2 =>
  z_b (some (v3 + 1)) fun x3 =>
  z_b (gI r2 v0 12 41) fun x4 =>
  z_b (sF r2 v0 12 41 (.int (x4 + 1))) fun h5 =>
  k174 v0 v1 v2 x3 h5
set_option maxRecDepth 20000 in
set_option maxHeartbeats 2000000 in
theorem s_Mod_exchange_252 (X : z_X p s m args meth c prog_14_method_28_code 5 none Ts "StreamForgeModel" D dA B) {N : Nat} {h' : z_H} {k174 : Nat → Int32 → Int32 → Int32 → z_H → Option z_H} (hk174 : ∀ (v0 : Nat) (v1 : Int32) (v2 : Int32) (v3 : Int32) (h : z_H) (H : Heap) (locs : List Loc) (ls : Array Slot), z_I D dA B h s.heap H locs → lv_has ls 5 [(0, .ref v0), (1, .int v1), (2, .int v2), (3, .int v3)] → k174 v0 v1 v2 v3 h = some h' → W p l e (z_rm 2 42) s m args below meth c H locs 0 0 (MQ below (z_Q D dA B none h') args s 0 0 (fun q => B ≤ q)) (F0 m 174 ls [])) : ∀ (v0 : Nat) (v1 : Int32) (v2 : Int32) (v3 : Int32) (v4 : Int32) (h : z_H) (H : Heap) (locs : List Loc) (ls : Array Slot), z_I D dA B h s.heap H locs → lv_has ls 5 [(0, .ref v0), (1, .int v1), (2, .int v2), (3, .int v3), (4, .int v4)] → f_Mod_exchange_252 N k174 v0 v1 v2 v3 v4 h = some h' → W p l e (z_rm 2 42) s m args below meth c H locs 0 0 (MQ below (z_Q D dA B none h') args s 0 0 (fun q => B ≤ q)) (F0 m 252 ls []) := by
  have hx := z_hx X
  have hb := z_hb X
  intro v0 v1 v2 v3 v4 h H locs ls hI hl hf
  unfold f_Mod_exchange_252 at hf
  refine lv_aload_n hx hb d_Mod_exchange_252 rfl (lv_at hl 0 rfl) ?_
  refine lv_iload hx hb d_Mod_exchange_253 (lv_at hl 4 rfl) ?_
  obtain ⟨u1, eu1, hf⟩ := z_bs hf
  obtain ⟨r2, er2, hf⟩ := z_bs hf
  refine z_callV (As := [.int v4]) (rest := []) (r := none) (h' := r2) X hI eu1 (s_Mod_keep er2) rfl rfl wm_Mod_243 yi_Mod_keep rfl hl.1 rfl (Nat.le_of_ble_eq_true rfl) (by decide) (by decide) d_Mod_exchange_255 (fun H locs hI => ?_)
  refine W.eq (g2 := F0 m 258 ls []) rfl ?_
  obtain ⟨x3, ex3, hf⟩ := z_bs hf
  refine lv_iinc (v := x3) (lv' := [(3, .int x3), (0, .ref v0), (1, .int v1), (2, .int v2), (4, .int v4)]) hx hb d_Mod_exchange_258 hl (k := 3) rfl (by rw [← Option.some.inj ex3]; rfl) (by decide) rfl (fun ls hl => ?_)
  refine lv_aload_n hx hb d_Mod_exchange_261 rfl (lv_at hl 1 rfl) ?_
  refine lv_dup hx hb d_Mod_exchange_262 rfl ?_
  obtain ⟨x4, ex4, hf⟩ := z_bs hf
  refine z_getF X hI (k := 41) (ci := 12) (gI_s ex4) i_Mod rfl (by decide) wf_Mod_176 d_Mod_exchange_263 ?_
  refine lv_iconst (v := 1) hx hb d_Mod_exchange_266 (by decide) ?_
  refine lv_iadd hx hb d_Mod_exchange_267 ?_
  obtain ⟨h5, eh5, hf⟩ := z_bs hf
  refine z_putF X hI (k := 41) (ci := 12) (ty0 := t_Mod) eh5 i_Mod t_Mod_ok n_Mod rfl (by decide) wf_Mod_176 rfl rfl rfl d_Mod_exchange_268 (fun H locs hI => ?_)
  refine lv_goto (tgt := 174) hx hb d_Mod_exchange_271 (by decide) ?_
  exact hk174 v0 v1 v2 x3 h5 _ _ _ hI (lv_sub hl [1, 2, 3, 0] rfl) hf
def f_Mod_exchange_244 (N : Nat) (k174 : Nat → Int32 → Int32 → Int32 → z_H → Option z_H) (v0 : Nat) (v1 : Int32) (v2 : Int32) (v3 : Int32) (v4 : Int32) (h : z_H) : Option z_H :=
  z_b (gI h v0 12 41) fun x1 =>
  z_b (gO h v0 12) fun u2 =>
  z_b (f_Mod_wrong N v0 x1 h) fun r3 =>
  f_Mod_exchange_252 N k174 v0 v1 v2 v3 v4 r3
set_option maxRecDepth 20000 in
set_option maxHeartbeats 2000000 in
theorem s_Mod_exchange_244 (X : z_X p s m args meth c prog_14_method_28_code 5 none Ts "StreamForgeModel" D dA B) {N : Nat} {h' : z_H} {k174 : Nat → Int32 → Int32 → Int32 → z_H → Option z_H} (hk174 : ∀ (v0 : Nat) (v1 : Int32) (v2 : Int32) (v3 : Int32) (h : z_H) (H : Heap) (locs : List Loc) (ls : Array Slot), z_I D dA B h s.heap H locs → lv_has ls 5 [(0, .ref v0), (1, .int v1), (2, .int v2), (3, .int v3)] → k174 v0 v1 v2 v3 h = some h' → W p l e (z_rm 2 42) s m args below meth c H locs 0 0 (MQ below (z_Q D dA B none h') args s 0 0 (fun q => B ≤ q)) (F0 m 174 ls [])) : ∀ (v0 : Nat) (v1 : Int32) (v2 : Int32) (v3 : Int32) (v4 : Int32) (h : z_H) (H : Heap) (locs : List Loc) (ls : Array Slot), z_I D dA B h s.heap H locs → lv_has ls 5 [(0, .ref v0), (1, .int v1), (2, .int v2), (3, .int v3), (4, .int v4)] → f_Mod_exchange_244 N k174 v0 v1 v2 v3 v4 h = some h' → W p l e (z_rm 2 42) s m args below meth c H locs 0 0 (MQ below (z_Q D dA B none h') args s 0 0 (fun q => B ≤ q)) (F0 m 244 ls []) := by
  have hx := z_hx X
  have hb := z_hb X
  intro v0 v1 v2 v3 v4 h H locs ls hI hl hf
  unfold f_Mod_exchange_244 at hf
  refine lv_aload_n hx hb d_Mod_exchange_244 rfl (lv_at hl 0 rfl) ?_
  refine lv_aload_n hx hb d_Mod_exchange_245 rfl (lv_at hl 0 rfl) ?_
  obtain ⟨x1, ex1, hf⟩ := z_bs hf
  refine z_getF X hI (k := 41) (ci := 12) (gI_s ex1) i_Mod rfl (by decide) wf_Mod_176 d_Mod_exchange_246 ?_
  obtain ⟨u2, eu2, hf⟩ := z_bs hf
  obtain ⟨r3, er3, hf⟩ := z_bs hf
  refine z_callV (As := [.int x1]) (rest := []) (r := none) (h' := r3) X hI eu2 (s_Mod_wrong er3) rfl rfl wm_Mod_187 yi_Mod_wrong rfl hl.1 rfl (Nat.le_of_ble_eq_true rfl) (by decide) (by decide) d_Mod_exchange_249 (fun H locs hI => ?_)
  refine W.eq (g2 := F0 m 252 ls []) rfl ?_
  exact s_Mod_exchange_252 X hk174 v0 v1 v2 v3 v4 r3 _ _ _ hI (lv_sub hl [0, 1, 2, 3, 4] rfl) hf
def f_Mod_exchange_195 (N : Nat) (k174 : Nat → Int32 → Int32 → Int32 → z_H → Option z_H) (v0 : Nat) (v1 : Int32) (v2 : Int32) (v3 : Int32) (h : z_H) : Option z_H :=
  z_b (gO h v0 12) fun u1 =>
  z_b (f_Mod_here N v0 h) fun r2 =>
  z_b (some (r2.1)) fun x3 =>
  if x3 = (-1) then
  (z_b (gI r2.2 v0 12 3) fun x9 =>
  z_b (gO r2.2 v0 12) fun u10 =>
  z_b (f_Mod_wrong N v0 x9 r2.2) fun r11 =>
  f_Mod_exchange_252 N k174 v0 v1 v2 v3 x3 r11)
  else
  (if x3 = 10 then
  (f_Mod_exchange_244 N k174 v0 v1 v2 v3 x3 r2.2)
  else
  (if x3 = 92 then
  (f_Mod_exchange_244 N k174 v0 v1 v2 v3 x3 r2.2)
  else
  (if x3 = 47 then
  (f_Mod_exchange_244 N k174 v0 v1 v2 v3 x3 r2.2)
  else
  (if v3 = v2 then
  (f_Mod_exchange_244 N k174 v0 v1 v2 v3 x3 r2.2)
  else
  (f_Mod_exchange_252 N k174 v0 v1 v2 v3 x3 r2.2)))))
set_option maxRecDepth 20000 in
set_option maxHeartbeats 2000000 in
theorem s_Mod_exchange_195 (X : z_X p s m args meth c prog_14_method_28_code 5 none Ts "StreamForgeModel" D dA B) {N : Nat} {h' : z_H} {k174 : Nat → Int32 → Int32 → Int32 → z_H → Option z_H} (hk174 : ∀ (v0 : Nat) (v1 : Int32) (v2 : Int32) (v3 : Int32) (h : z_H) (H : Heap) (locs : List Loc) (ls : Array Slot), z_I D dA B h s.heap H locs → lv_has ls 5 [(0, .ref v0), (1, .int v1), (2, .int v2), (3, .int v3)] → k174 v0 v1 v2 v3 h = some h' → W p l e (z_rm 2 42) s m args below meth c H locs 0 0 (MQ below (z_Q D dA B none h') args s 0 0 (fun q => B ≤ q)) (F0 m 174 ls [])) : ∀ (v0 : Nat) (v1 : Int32) (v2 : Int32) (v3 : Int32) (h : z_H) (H : Heap) (locs : List Loc) (ls : Array Slot), z_I D dA B h s.heap H locs → lv_has ls 5 [(0, .ref v0), (1, .int v1), (2, .int v2), (3, .int v3)] → f_Mod_exchange_195 N k174 v0 v1 v2 v3 h = some h' → W p l e (z_rm 2 42) s m args below meth c H locs 0 0 (MQ below (z_Q D dA B none h') args s 0 0 (fun q => B ≤ q)) (F0 m 195 ls []) := by
  have hx := z_hx X
  have hb := z_hb X
  intro v0 v1 v2 v3 h H locs ls hI hl hf
  unfold f_Mod_exchange_195 at hf
  refine lv_aload_n hx hb d_Mod_exchange_195 rfl (lv_at hl 0 rfl) ?_
  obtain ⟨u1, eu1, hf⟩ := z_bs hf
  obtain ⟨r2, er2, hf⟩ := z_bs hf
  refine z_callV (As := []) (rest := []) (r := (some (.int r2.1))) (h' := r2.2) X hI eu1 (s_Mod_here er2) rfl rfl wm_Mod_183 yi_Mod_here rfl hl.1 rfl (Nat.le_of_ble_eq_true rfl) (by decide) (by decide) d_Mod_exchange_196 (fun H locs hI => ?_)
  refine W.eq (g2 := F0 m 199 ls [.int (r2.1)]) rfl ?_
  obtain ⟨x3, ex3, hf⟩ := z_bs hf
  refine z_topi (Option.some.inj ex3) ?_
  refine lv_istore (lv' := [(4, .int x3), (0, .ref v0), (1, .int v1), (2, .int v2), (3, .int v3)]) hx hb d_Mod_exchange_199 hl (by decide) rfl (fun ls hl => ?_)
  refine lv_iload hx hb d_Mod_exchange_201 (lv_at hl 0 rfl) ?_
  refine lv_iconst (v := (-1)) hx hb d_Mod_exchange_203 (by decide) ?_
  refine lv_icmp_ne (tgt := 218) hx hb d_Mod_exchange_204 (by decide) (fun c4 => ?_) (fun c4 => ?_)
  · rw [if_neg c4] at hf
    refine lv_iload hx hb d_Mod_exchange_218 (lv_at hl 0 rfl) ?_
    refine lv_bipush (v := 10) hx hb d_Mod_exchange_220 (by decide) ?_
    refine lv_icmp_eq (tgt := 244) hx hb d_Mod_exchange_222 (by decide) (fun c5 => ?_) (fun c5 => ?_)
    · rw [if_pos c5] at hf
      exact s_Mod_exchange_244 X hk174 v0 v1 v2 v3 x3 r2.2 _ _ _ hI (lv_sub hl [1, 2, 3, 4, 0] rfl) hf
    · rw [if_neg c5] at hf
      refine lv_iload hx hb d_Mod_exchange_225 (lv_at hl 0 rfl) ?_
      refine lv_bipush (v := 92) hx hb d_Mod_exchange_227 (by decide) ?_
      refine lv_icmp_eq (tgt := 244) hx hb d_Mod_exchange_229 (by decide) (fun c6 => ?_) (fun c6 => ?_)
      · rw [if_pos c6] at hf
        exact s_Mod_exchange_244 X hk174 v0 v1 v2 v3 x3 r2.2 _ _ _ hI (lv_sub hl [1, 2, 3, 4, 0] rfl) hf
      · rw [if_neg c6] at hf
        refine lv_iload hx hb d_Mod_exchange_232 (lv_at hl 0 rfl) ?_
        refine lv_bipush (v := 47) hx hb d_Mod_exchange_234 (by decide) ?_
        refine lv_icmp_eq (tgt := 244) hx hb d_Mod_exchange_236 (by decide) (fun c7 => ?_) (fun c7 => ?_)
        · rw [if_pos c7] at hf
          exact s_Mod_exchange_244 X hk174 v0 v1 v2 v3 x3 r2.2 _ _ _ hI (lv_sub hl [1, 2, 3, 4, 0] rfl) hf
        · rw [if_neg c7] at hf
          refine lv_iload_n hx hb d_Mod_exchange_239 rfl (lv_at hl 4 rfl) ?_
          refine lv_iload_n hx hb d_Mod_exchange_240 rfl (lv_at hl 3 rfl) ?_
          refine lv_icmp_ne (tgt := 252) hx hb d_Mod_exchange_241 (by decide) (fun c8 => ?_) (fun c8 => ?_)
          · rw [if_neg c8] at hf
            exact s_Mod_exchange_252 X hk174 v0 v1 v2 v3 x3 r2.2 _ _ _ hI (lv_sub hl [1, 2, 3, 4, 0] rfl) hf
          · rw [if_pos c8] at hf
            exact s_Mod_exchange_244 X hk174 v0 v1 v2 v3 x3 r2.2 _ _ _ hI (lv_sub hl [1, 2, 3, 4, 0] rfl) hf
  · rw [if_pos c4] at hf
    refine lv_aload_n hx hb d_Mod_exchange_207 rfl (lv_at hl 1 rfl) ?_
    refine lv_aload_n hx hb d_Mod_exchange_208 rfl (lv_at hl 1 rfl) ?_
    obtain ⟨x9, ex9, hf⟩ := z_bs hf
    refine z_getF X hI (k := 3) (ci := 12) (gI_s ex9) i_Mod rfl (by decide) wf_Mod_166 d_Mod_exchange_209 ?_
    obtain ⟨u10, eu10, hf⟩ := z_bs hf
    obtain ⟨r11, er11, hf⟩ := z_bs hf
    refine z_callV (As := [.int x9]) (rest := []) (r := none) (h' := r11) X hI eu10 (s_Mod_wrong er11) rfl rfl wm_Mod_187 yi_Mod_wrong rfl hl.1 rfl (Nat.le_of_ble_eq_true rfl) (by decide) (by decide) d_Mod_exchange_212 (fun H locs hI => ?_)
    refine W.eq (g2 := F0 m 215 ls []) rfl ?_
    refine lv_goto (tgt := 252) hx hb d_Mod_exchange_215 (by decide) ?_
    exact s_Mod_exchange_252 X hk174 v0 v1 v2 v3 x3 r11 _ _ _ hI (lv_sub hl [1, 2, 3, 4, 0] rfl) hf
def f_Mod_exchange_274 (N : Nat)  (v0 : Nat) (v1 : Int32) (h : z_H) : Option z_H :=
  z_b (gI h v0 12 41) fun x1 =>
  z_b (sF h v0 12 41 (.int (x1 + 1))) fun h2 =>
  z_b (gR h2 v0 12 16) fun x3 =>
  z_b (gO h2 v0 12) fun u4 =>
  z_b (f_Mod_stored N v0 h2) fun r5 =>
  z_b (uI r5.2 x3 0 v1 (r5.1)) fun h6 =>
  some h6
set_option maxRecDepth 20000 in
set_option maxHeartbeats 2000000 in
theorem s_Mod_exchange_274 (X : z_X p s m args meth c prog_14_method_28_code 5 none Ts "StreamForgeModel" D dA B) {N : Nat} {h' : z_H}   : ∀ (v0 : Nat) (v1 : Int32) (h : z_H) (H : Heap) (locs : List Loc) (ls : Array Slot), z_I D dA B h s.heap H locs → lv_has ls 5 [(0, .ref v0), (1, .int v1)] → f_Mod_exchange_274 N  v0 v1 h = some h' → W p l e (z_rm 2 42) s m args below meth c H locs 0 0 (MQ below (z_Q D dA B none h') args s 0 0 (fun q => B ≤ q)) (F0 m 274 ls []) := by
  have hx := z_hx X
  have hb := z_hb X
  intro v0 v1 h H locs ls hI hl hf
  unfold f_Mod_exchange_274 at hf
  refine lv_aload_n hx hb d_Mod_exchange_274 rfl (lv_at hl 0 rfl) ?_
  refine lv_dup hx hb d_Mod_exchange_275 rfl ?_
  obtain ⟨x1, ex1, hf⟩ := z_bs hf
  refine z_getF X hI (k := 41) (ci := 12) (gI_s ex1) i_Mod rfl (by decide) wf_Mod_176 d_Mod_exchange_276 ?_
  refine lv_iconst (v := 1) hx hb d_Mod_exchange_279 (by decide) ?_
  refine lv_iadd hx hb d_Mod_exchange_280 ?_
  obtain ⟨h2, eh2, hf⟩ := z_bs hf
  refine z_putF X hI (k := 41) (ci := 12) (ty0 := t_Mod) eh2 i_Mod t_Mod_ok n_Mod rfl (by decide) wf_Mod_176 rfl rfl rfl d_Mod_exchange_281 (fun H locs hI => ?_)
  refine lv_aload_n hx hb d_Mod_exchange_284 rfl (lv_at hl 0 rfl) ?_
  obtain ⟨x3, ex3, hf⟩ := z_bs hf
  refine z_getF X hI (k := 16) (ci := 12) (gR_s ex3) i_Mod rfl (by decide) wf_Mod_44 d_Mod_exchange_285 ?_
  refine lv_iload_n hx hb d_Mod_exchange_288 rfl (lv_at hl 1 rfl) ?_
  refine lv_aload_n hx hb d_Mod_exchange_289 rfl (lv_at hl 0 rfl) ?_
  obtain ⟨u4, eu4, hf⟩ := z_bs hf
  obtain ⟨r5, er5, hf⟩ := z_bs hf
  refine z_callV (As := []) (rest := [.int v1, .ref x3]) (r := (some (.int r5.1))) (h' := r5.2) X hI eu4 (s_Mod_stored er5) rfl rfl wm_Mod_240 yi_Mod_stored rfl hl.1 rfl (Nat.le_of_ble_eq_true rfl) (by decide) (by decide) d_Mod_exchange_290 (fun H locs hI => ?_)
  refine W.eq (g2 := F0 m 293 ls [.int (r5.1), .int v1, .ref x3]) rfl ?_
  obtain ⟨h6, eh6, hf⟩ := z_bs hf
  refine z_iast X hI eh6 d_Mod_exchange_293 (fun H locs hI => ?_)
  cases hf
  exact z_vret X hI d_Mod_exchange_294
def f_Mod_exchange_174 (N : Nat)  : Nat → Nat → Int32 → Int32 → Int32 → z_H → Option z_H
  | 0, _, _, _, _, _ => none
  | n + 1, v0, v1, v2, v3, h =>
    z_b (gI h v0 12 48) fun x1 =>
    if x1 = 0 then
    (if v3 < v2 then
    (f_Mod_exchange_195 N (f_Mod_exchange_174 N  n) v0 v1 v2 v3 h)
    else
    (z_b (gO h v0 12) fun u4 =>
    z_b (f_Mod_here N v0 h) fun r5 =>
    if (r5.1) = 47 then
    (f_Mod_exchange_274 N v0 v1 r5.2)
    else
    (f_Mod_exchange_195 N (f_Mod_exchange_174 N  n) v0 v1 v2 v3 r5.2)))
    else
    (f_Mod_exchange_274 N v0 v1 h)
set_option maxRecDepth 20000 in
set_option maxHeartbeats 2000000 in
theorem s_Mod_exchange_174 (X : z_X p s m args meth c prog_14_method_28_code 5 none Ts "StreamForgeModel" D dA B) {N : Nat} {h' : z_H}   : ∀ n : Nat, ∀ (v0 : Nat) (v1 : Int32) (v2 : Int32) (v3 : Int32) (h : z_H) (H : Heap) (locs : List Loc) (ls : Array Slot), z_I D dA B h s.heap H locs → lv_has ls 5 [(0, .ref v0), (1, .int v1), (2, .int v2), (3, .int v3)] → f_Mod_exchange_174 N  n v0 v1 v2 v3 h = some h' → W p l e (z_rm 2 42) s m args below meth c H locs 0 0 (MQ below (z_Q D dA B none h') args s 0 0 (fun q => B ≤ q)) (F0 m 174 ls []) := by
  have hx := z_hx X
  have hb := z_hb X
  intro n
  induction n with
  | zero => intro v0 v1 v2 v3 h H locs ls hI hl hf; rw [f_Mod_exchange_174] at hf; cases hf
  | succ n ih =>
    intro v0 v1 v2 v3 h H locs ls hI hl hf
    rw [f_Mod_exchange_174] at hf
    refine lv_aload_n hx hb d_Mod_exchange_174 rfl (lv_at hl 0 rfl) ?_
    obtain ⟨x1, ex1, hf⟩ := z_bs hf
    refine z_getF X hI (k := 48) (ci := 12) (gI_s ex1) i_Mod rfl (by decide) wf_Mod_179 d_Mod_exchange_175 ?_
    refine lv_if_ne (tgt := 274) hx hb d_Mod_exchange_178 (by decide) (fun c2 => ?_) (fun c2 => ?_)
    · rw [if_neg c2] at hf
      exact s_Mod_exchange_274 X  v0 v1 h _ _ _ hI (lv_sub hl [0, 1] rfl) hf
    · rw [if_pos c2] at hf
      refine lv_iload_n hx hb d_Mod_exchange_181 rfl (lv_at hl 3 rfl) ?_
      refine lv_iload_n hx hb d_Mod_exchange_182 rfl (lv_at hl 2 rfl) ?_
      refine lv_icmp_lt (tgt := 195) hx hb d_Mod_exchange_183 (by decide) (fun c3 => ?_) (fun c3 => ?_)
      · rw [if_pos c3] at hf
        exact s_Mod_exchange_195 X ih v0 v1 v2 v3 h _ _ _ hI (lv_sub hl [0, 1, 2, 3] rfl) hf
      · rw [if_neg c3] at hf
        refine lv_aload_n hx hb d_Mod_exchange_186 rfl (lv_at hl 0 rfl) ?_
        obtain ⟨u4, eu4, hf⟩ := z_bs hf
        obtain ⟨r5, er5, hf⟩ := z_bs hf
        refine z_callV (As := []) (rest := []) (r := (some (.int r5.1))) (h' := r5.2) X hI eu4 (s_Mod_here er5) rfl rfl wm_Mod_183 yi_Mod_here rfl hl.1 rfl (Nat.le_of_ble_eq_true rfl) (by decide) (by decide) d_Mod_exchange_187 (fun H locs hI => ?_)
        refine W.eq (g2 := F0 m 190 ls [.int (r5.1)]) rfl ?_
        refine lv_bipush (v := 47) hx hb d_Mod_exchange_190 (by decide) ?_
        refine lv_icmp_eq (tgt := 274) hx hb d_Mod_exchange_192 (by decide) (fun c6 => ?_) (fun c6 => ?_)
        · rw [if_pos c6] at hf
          exact s_Mod_exchange_274 X  v0 v1 r5.2 _ _ _ hI (lv_sub hl [0, 1] rfl) hf
        · rw [if_neg c6] at hf
          exact s_Mod_exchange_195 X ih v0 v1 v2 v3 r5.2 _ _ _ hI (lv_sub hl [0, 1, 2, 3] rfl) hf
def f_Mod_exchange_138 (N : Nat)  (v0 : Nat) (v1 : Int32) (h : z_H) : Option z_H :=
  z_b (gI h v0 12 41) fun x1 =>
  z_b (sF h v0 12 41 (.int (x1 + 1))) fun h2 =>
  z_b (gR h2 v0 12 17) fun x3 =>
  z_b (gO h2 v0 12) fun u4 =>
  z_b (f_Mod_stored N v0 h2) fun r5 =>
  z_b (uI r5.2 x3 0 v1 (r5.1)) fun h6 =>
  z_b (gR h6 v0 12 17) fun x7 =>
  z_b (aI h6 x7 0 v1) fun x8 =>
  z_b (gR h6 v0 12 15) fun x9 =>
  z_b (aI h6 x9 0 v1) fun x10 =>
  z_b (some (x8 - x10)) fun x11 =>
  f_Mod_exchange_174 N N v0 v1 x11 0 h6
set_option maxRecDepth 20000 in
set_option maxHeartbeats 2000000 in
theorem s_Mod_exchange_138 (X : z_X p s m args meth c prog_14_method_28_code 5 none Ts "StreamForgeModel" D dA B) {N : Nat} {h' : z_H}   : ∀ (v0 : Nat) (v1 : Int32) (h : z_H) (H : Heap) (locs : List Loc) (ls : Array Slot), z_I D dA B h s.heap H locs → lv_has ls 5 [(0, .ref v0), (1, .int v1)] → f_Mod_exchange_138 N  v0 v1 h = some h' → W p l e (z_rm 2 42) s m args below meth c H locs 0 0 (MQ below (z_Q D dA B none h') args s 0 0 (fun q => B ≤ q)) (F0 m 138 ls []) := by
  have hx := z_hx X
  have hb := z_hb X
  intro v0 v1 h H locs ls hI hl hf
  unfold f_Mod_exchange_138 at hf
  refine lv_aload_n hx hb d_Mod_exchange_138 rfl (lv_at hl 0 rfl) ?_
  refine lv_dup hx hb d_Mod_exchange_139 rfl ?_
  obtain ⟨x1, ex1, hf⟩ := z_bs hf
  refine z_getF X hI (k := 41) (ci := 12) (gI_s ex1) i_Mod rfl (by decide) wf_Mod_176 d_Mod_exchange_140 ?_
  refine lv_iconst (v := 1) hx hb d_Mod_exchange_143 (by decide) ?_
  refine lv_iadd hx hb d_Mod_exchange_144 ?_
  obtain ⟨h2, eh2, hf⟩ := z_bs hf
  refine z_putF X hI (k := 41) (ci := 12) (ty0 := t_Mod) eh2 i_Mod t_Mod_ok n_Mod rfl (by decide) wf_Mod_176 rfl rfl rfl d_Mod_exchange_145 (fun H locs hI => ?_)
  refine lv_aload_n hx hb d_Mod_exchange_148 rfl (lv_at hl 0 rfl) ?_
  obtain ⟨x3, ex3, hf⟩ := z_bs hf
  refine z_getF X hI (k := 17) (ci := 12) (gR_s ex3) i_Mod rfl (by decide) wf_Mod_47 d_Mod_exchange_149 ?_
  refine lv_iload_n hx hb d_Mod_exchange_152 rfl (lv_at hl 1 rfl) ?_
  refine lv_aload_n hx hb d_Mod_exchange_153 rfl (lv_at hl 0 rfl) ?_
  obtain ⟨u4, eu4, hf⟩ := z_bs hf
  obtain ⟨r5, er5, hf⟩ := z_bs hf
  refine z_callV (As := []) (rest := [.int v1, .ref x3]) (r := (some (.int r5.1))) (h' := r5.2) X hI eu4 (s_Mod_stored er5) rfl rfl wm_Mod_240 yi_Mod_stored rfl hl.1 rfl (Nat.le_of_ble_eq_true rfl) (by decide) (by decide) d_Mod_exchange_154 (fun H locs hI => ?_)
  refine W.eq (g2 := F0 m 157 ls [.int (r5.1), .int v1, .ref x3]) rfl ?_
  obtain ⟨h6, eh6, hf⟩ := z_bs hf
  refine z_iast X hI eh6 d_Mod_exchange_157 (fun H locs hI => ?_)
  refine lv_aload_n hx hb d_Mod_exchange_158 rfl (lv_at hl 0 rfl) ?_
  obtain ⟨x7, ex7, hf⟩ := z_bs hf
  refine z_getF X hI (k := 17) (ci := 12) (gR_s ex7) i_Mod rfl (by decide) wf_Mod_47 d_Mod_exchange_159 ?_
  refine lv_iload_n hx hb d_Mod_exchange_162 rfl (lv_at hl 1 rfl) ?_
  obtain ⟨x8, ex8, hf⟩ := z_bs hf
  refine z_iald X hI ex8 d_Mod_exchange_163 ?_
  refine lv_aload_n hx hb d_Mod_exchange_164 rfl (lv_at hl 0 rfl) ?_
  obtain ⟨x9, ex9, hf⟩ := z_bs hf
  refine z_getF X hI (k := 15) (ci := 12) (gR_s ex9) i_Mod rfl (by decide) wf_Mod_41 d_Mod_exchange_165 ?_
  refine lv_iload_n hx hb d_Mod_exchange_168 rfl (lv_at hl 1 rfl) ?_
  obtain ⟨x10, ex10, hf⟩ := z_bs hf
  refine z_iald X hI ex10 d_Mod_exchange_169 ?_
  refine lv_isub hx hb d_Mod_exchange_170 ?_
  obtain ⟨x11, ex11, hf⟩ := z_bs hf
  refine z_topi (Option.some.inj ex11) ?_
  refine lv_istore_n (lv' := [(2, .int x11), (0, .ref v0), (1, .int v1)]) hx hb d_Mod_exchange_171 rfl hl (by decide) rfl (fun ls hl => ?_)
  refine lv_iconst (v := 0) hx hb d_Mod_exchange_172 (by decide) ?_
  refine lv_istore_n (lv' := [(3, .int 0), (2, .int x11), (0, .ref v0), (1, .int v1)]) hx hb d_Mod_exchange_173 rfl hl (by decide) rfl (fun ls hl => ?_)
  exact s_Mod_exchange_174 X  N v0 v1 x11 0 h6 _ _ _ hI (lv_sub hl [2, 3, 1, 0] rfl) hf
def f_Mod_exchange_16 (N : Nat)  : Nat → Nat → Int32 → z_H → Option z_H
  | 0, _, _, _ => none
  | n + 1, v0, v1, h =>
    z_b (gI h v0 12 48) fun x1 =>
    if x1 = 0 then
    (z_b (gO h v0 12) fun u3 =>
    z_b (f_Mod_here N v0 h) fun r4 =>
    if (r4.1) = 47 then
    (f_Mod_exchange_138 N v0 v1 r4.2)
    else
    (z_b (gO r4.2 v0 12) fun u6 =>
    z_b (f_Mod_here N v0 r4.2) fun r7 =>
    z_b (some (r7.1)) fun x8 =>
    if x8 = (-1) then
    (f_Mod_exchange_54 N (f_Mod_exchange_16 N  n) v0 v1 x8 r7.2)
    else
    (if x8 = 10 then
    (f_Mod_exchange_54 N (f_Mod_exchange_16 N  n) v0 v1 x8 r7.2)
    else
    (if x8 = 92 then
    (f_Mod_exchange_54 N (f_Mod_exchange_16 N  n) v0 v1 x8 r7.2)
    else
    (f_Mod_exchange_74 N (f_Mod_exchange_16 N  n) v0 v1 x8 r7.2)))))
    else
    (f_Mod_exchange_138 N v0 v1 h)
set_option maxRecDepth 20000 in
set_option maxHeartbeats 2000000 in
theorem s_Mod_exchange_16 (X : z_X p s m args meth c prog_14_method_28_code 5 none Ts "StreamForgeModel" D dA B) {N : Nat} {h' : z_H}   : ∀ n : Nat, ∀ (v0 : Nat) (v1 : Int32) (h : z_H) (H : Heap) (locs : List Loc) (ls : Array Slot), z_I D dA B h s.heap H locs → lv_has ls 5 [(0, .ref v0), (1, .int v1)] → f_Mod_exchange_16 N  n v0 v1 h = some h' → W p l e (z_rm 2 42) s m args below meth c H locs 0 0 (MQ below (z_Q D dA B none h') args s 0 0 (fun q => B ≤ q)) (F0 m 16 ls []) := by
  have hx := z_hx X
  have hb := z_hb X
  intro n
  induction n with
  | zero => intro v0 v1 h H locs ls hI hl hf; rw [f_Mod_exchange_16] at hf; cases hf
  | succ n ih =>
    intro v0 v1 h H locs ls hI hl hf
    rw [f_Mod_exchange_16] at hf
    refine lv_aload_n hx hb d_Mod_exchange_16 rfl (lv_at hl 0 rfl) ?_
    obtain ⟨x1, ex1, hf⟩ := z_bs hf
    refine z_getF X hI (k := 48) (ci := 12) (gI_s ex1) i_Mod rfl (by decide) wf_Mod_179 d_Mod_exchange_17 ?_
    refine lv_if_ne (tgt := 138) hx hb d_Mod_exchange_20 (by decide) (fun c2 => ?_) (fun c2 => ?_)
    · rw [if_neg c2] at hf
      exact s_Mod_exchange_138 X  v0 v1 h _ _ _ hI (lv_sub hl [0, 1] rfl) hf
    · rw [if_pos c2] at hf
      refine lv_aload_n hx hb d_Mod_exchange_23 rfl (lv_at hl 0 rfl) ?_
      obtain ⟨u3, eu3, hf⟩ := z_bs hf
      obtain ⟨r4, er4, hf⟩ := z_bs hf
      refine z_callV (As := []) (rest := []) (r := (some (.int r4.1))) (h' := r4.2) X hI eu3 (s_Mod_here er4) rfl rfl wm_Mod_183 yi_Mod_here rfl hl.1 rfl (Nat.le_of_ble_eq_true rfl) (by decide) (by decide) d_Mod_exchange_24 (fun H locs hI => ?_)
      refine W.eq (g2 := F0 m 27 ls [.int (r4.1)]) rfl ?_
      refine lv_bipush (v := 47) hx hb d_Mod_exchange_27 (by decide) ?_
      refine lv_icmp_eq (tgt := 138) hx hb d_Mod_exchange_29 (by decide) (fun c5 => ?_) (fun c5 => ?_)
      · rw [if_pos c5] at hf
        exact s_Mod_exchange_138 X  v0 v1 r4.2 _ _ _ hI (lv_sub hl [0, 1] rfl) hf
      · rw [if_neg c5] at hf
        refine lv_aload_n hx hb d_Mod_exchange_32 rfl (lv_at hl 0 rfl) ?_
        obtain ⟨u6, eu6, hf⟩ := z_bs hf
        obtain ⟨r7, er7, hf⟩ := z_bs hf
        refine z_callV (As := []) (rest := []) (r := (some (.int r7.1))) (h' := r7.2) X hI eu6 (s_Mod_here er7) rfl rfl wm_Mod_183 yi_Mod_here rfl hl.1 rfl (Nat.le_of_ble_eq_true rfl) (by decide) (by decide) d_Mod_exchange_33 (fun H locs hI => ?_)
        refine W.eq (g2 := F0 m 36 ls [.int (r7.1)]) rfl ?_
        obtain ⟨x8, ex8, hf⟩ := z_bs hf
        refine z_topi (Option.some.inj ex8) ?_
        refine lv_istore_n (lv' := [(2, .int x8), (0, .ref v0), (1, .int v1)]) hx hb d_Mod_exchange_36 rfl hl (by decide) rfl (fun ls hl => ?_)
        refine lv_iload_n hx hb d_Mod_exchange_37 rfl (lv_at hl 0 rfl) ?_
        refine lv_iconst (v := (-1)) hx hb d_Mod_exchange_38 (by decide) ?_
        refine lv_icmp_eq (tgt := 54) hx hb d_Mod_exchange_39 (by decide) (fun c9 => ?_) (fun c9 => ?_)
        · rw [if_pos c9] at hf
          exact s_Mod_exchange_54 X ih v0 v1 x8 r7.2 _ _ _ hI (lv_sub hl [1, 2, 0] rfl) hf
        · rw [if_neg c9] at hf
          refine lv_iload_n hx hb d_Mod_exchange_42 rfl (lv_at hl 0 rfl) ?_
          refine lv_bipush (v := 10) hx hb d_Mod_exchange_43 (by decide) ?_
          refine lv_icmp_eq (tgt := 54) hx hb d_Mod_exchange_45 (by decide) (fun c10 => ?_) (fun c10 => ?_)
          · rw [if_pos c10] at hf
            exact s_Mod_exchange_54 X ih v0 v1 x8 r7.2 _ _ _ hI (lv_sub hl [1, 2, 0] rfl) hf
          · rw [if_neg c10] at hf
            refine lv_iload_n hx hb d_Mod_exchange_48 rfl (lv_at hl 0 rfl) ?_
            refine lv_bipush (v := 92) hx hb d_Mod_exchange_49 (by decide) ?_
            refine lv_icmp_ne (tgt := 74) hx hb d_Mod_exchange_51 (by decide) (fun c11 => ?_) (fun c11 => ?_)
            · rw [if_neg c11] at hf
              exact s_Mod_exchange_74 X ih v0 v1 x8 r7.2 _ _ _ hI (lv_sub hl [1, 2, 0] rfl) hf
            · rw [if_pos c11] at hf
              exact s_Mod_exchange_54 X ih v0 v1 x8 r7.2 _ _ _ hI (lv_sub hl [1, 2, 0] rfl) hf
def f_Mod_exchange (N : Nat) (v0 : Nat) (v1 : Int32) (h : z_H) : Option z_H :=
  z_b (gO h v0 12) fun u1 =>
  z_b (f_Mod_expect N v0 47 h) fun r2 =>
  z_b (gR r2 v0 12 15) fun x3 =>
  z_b (gO r2 v0 12) fun u4 =>
  z_b (f_Mod_stored N v0 r2) fun r5 =>
  z_b (uI r5.2 x3 0 v1 (r5.1)) fun h6 =>
  f_Mod_exchange_16 N N v0 v1 h6
set_option maxRecDepth 20000 in
set_option maxHeartbeats 2000000 in
theorem s_Mod_exchange {l : Launch} {D : va_G} {dA : Nat → ClassId} {B N : Nat} {v0 : Nat} {v1 : Int32} {h h' : z_H} (hf : f_Mod_exchange N v0 v1 h = some h') : z_Met l y_Mod_exchange prog_14_method_28_code 5 none 2 42 D dA B [.ref v0, .int v1] h none h' := by
  refine z_of (by decide) (Nat.le_of_ble_eq_true rfl) (fun p e s m below meth c ls X hI hl => ?_)
  have hx := z_hx X
  have hb := z_hb X
  have hl : lv_has ls 5 [(0, .ref v0), (1, .int v1)] := hl
  unfold f_Mod_exchange at hf
  obtain ⟨locs, hlo⟩ : ∃ z : List Loc, z = [] := ⟨_, rfl⟩
  rw [← hlo] at hI ⊢
  refine lv_aload_n hx hb d_Mod_exchange_0 rfl (lv_at hl 0 rfl) ?_
  refine lv_bipush (v := 47) hx hb d_Mod_exchange_1 (by decide) ?_
  obtain ⟨u1, eu1, hf⟩ := z_bs hf
  obtain ⟨r2, er2, hf⟩ := z_bs hf
  refine z_callV (As := [.int 47]) (rest := []) (r := none) (h' := r2) X hI eu1 (s_Mod_expect er2) rfl rfl wm_Mod_246 yi_Mod_expect rfl hl.1 rfl (Nat.le_of_ble_eq_true rfl) (by decide) (by decide) d_Mod_exchange_3 (fun H locs hI => ?_)
  refine W.eq (g2 := F0 m 6 ls []) rfl ?_
  refine lv_aload_n hx hb d_Mod_exchange_6 rfl (lv_at hl 0 rfl) ?_
  obtain ⟨x3, ex3, hf⟩ := z_bs hf
  refine z_getF X hI (k := 15) (ci := 12) (gR_s ex3) i_Mod rfl (by decide) wf_Mod_41 d_Mod_exchange_7 ?_
  refine lv_iload_n hx hb d_Mod_exchange_10 rfl (lv_at hl 1 rfl) ?_
  refine lv_aload_n hx hb d_Mod_exchange_11 rfl (lv_at hl 0 rfl) ?_
  obtain ⟨u4, eu4, hf⟩ := z_bs hf
  obtain ⟨r5, er5, hf⟩ := z_bs hf
  refine z_callV (As := []) (rest := [.int v1, .ref x3]) (r := (some (.int r5.1))) (h' := r5.2) X hI eu4 (s_Mod_stored er5) rfl rfl wm_Mod_240 yi_Mod_stored rfl hl.1 rfl (Nat.le_of_ble_eq_true rfl) (by decide) (by decide) d_Mod_exchange_12 (fun H locs hI => ?_)
  refine W.eq (g2 := F0 m 15 ls [.int (r5.1), .int v1, .ref x3]) rfl ?_
  obtain ⟨h6, eh6, hf⟩ := z_bs hf
  refine z_iast X hI eh6 d_Mod_exchange_15 (fun H locs hI => ?_)
  exact s_Mod_exchange_16 X  N v0 v1 h6 _ _ _ hI (lv_sub hl [0, 1] rfl) hf
def f_Mod_readText_77 (N : Nat)  (v0 : Nat) (v1 : Int32) (h : z_H) : Option z_H :=
  z_b (gR h v0 12 16) fun x1 =>
  z_b (gO h v0 12) fun u2 =>
  z_b (f_Mod_stored N v0 h) fun r3 =>
  z_b (uI r3.2 x1 0 v1 (r3.1)) fun h4 =>
  some h4
set_option maxRecDepth 20000 in
set_option maxHeartbeats 2000000 in
theorem s_Mod_readText_77 (X : z_X p s m args meth c prog_14_method_29_code 2 none Ts "StreamForgeModel" D dA B) {N : Nat} {h' : z_H}   : ∀ (v0 : Nat) (v1 : Int32) (h : z_H) (H : Heap) (locs : List Loc) (ls : Array Slot), z_I D dA B h s.heap H locs → lv_has ls 2 [(0, .ref v0), (1, .int v1)] → f_Mod_readText_77 N  v0 v1 h = some h' → W p l e (z_rm 2 42) s m args below meth c H locs 0 0 (MQ below (z_Q D dA B none h') args s 0 0 (fun q => B ≤ q)) (F0 m 77 ls []) := by
  have hx := z_hx X
  have hb := z_hb X
  intro v0 v1 h H locs ls hI hl hf
  unfold f_Mod_readText_77 at hf
  refine lv_aload_n hx hb d_Mod_readText_77 rfl (lv_at hl 0 rfl) ?_
  obtain ⟨x1, ex1, hf⟩ := z_bs hf
  refine z_getF X hI (k := 16) (ci := 12) (gR_s ex1) i_Mod rfl (by decide) wf_Mod_44 d_Mod_readText_78 ?_
  refine lv_iload_n hx hb d_Mod_readText_81 rfl (lv_at hl 1 rfl) ?_
  refine lv_aload_n hx hb d_Mod_readText_82 rfl (lv_at hl 0 rfl) ?_
  obtain ⟨u2, eu2, hf⟩ := z_bs hf
  obtain ⟨r3, er3, hf⟩ := z_bs hf
  refine z_callV (As := []) (rest := [.int v1, .ref x1]) (r := (some (.int r3.1))) (h' := r3.2) X hI eu2 (s_Mod_stored er3) rfl rfl wm_Mod_240 yi_Mod_stored rfl hl.1 rfl (Nat.le_of_ble_eq_true rfl) (by decide) (by decide) d_Mod_readText_83 (fun H locs hI => ?_)
  refine W.eq (g2 := F0 m 86 ls [.int (r3.1), .int v1, .ref x1]) rfl ?_
  obtain ⟨h4, eh4, hf⟩ := z_bs hf
  refine z_iast X hI eh4 d_Mod_readText_86 (fun H locs hI => ?_)
  cases hf
  exact z_vret X hI d_Mod_readText_87
def f_Mod_readText_32 (N : Nat)  : Nat → Nat → Int32 → z_H → Option z_H
  | 0, _, _, _ => none
  | n + 1, v0, v1, h =>
    z_b (gI h v0 12 48) fun x1 =>
    if x1 = 0 then
    (z_b (gO h v0 12) fun u3 =>
    z_b (f_Mod_here N v0 h) fun r4 =>
    if (r4.1) = (-1) then
    (f_Mod_readText_77 N v0 v1 r4.2)
    else
    (z_b (gO r4.2 v0 12) fun u6 =>
    z_b (f_Mod_here N v0 r4.2) fun r7 =>
    if (r7.1) = 10 then
    (f_Mod_readText_77 N v0 v1 r7.2)
    else
    (z_b (gO r7.2 v0 12) fun u9 =>
    z_b (f_Mod_here N v0 r7.2) fun r10 =>
    z_b (gO r10.2 v0 12) fun u11 =>
    z_b (f_Mod_keep N v0 (r10.1) r10.2) fun r12 =>
    z_b (gI r12 v0 12 41) fun x13 =>
    z_b (sF r12 v0 12 41 (.int (x13 + 1))) fun h14 =>
    (f_Mod_readText_32 N  n) v0 v1 h14)))
    else
    (f_Mod_readText_77 N v0 v1 h)
set_option maxRecDepth 20000 in
set_option maxHeartbeats 2000000 in
theorem s_Mod_readText_32 (X : z_X p s m args meth c prog_14_method_29_code 2 none Ts "StreamForgeModel" D dA B) {N : Nat} {h' : z_H}   : ∀ n : Nat, ∀ (v0 : Nat) (v1 : Int32) (h : z_H) (H : Heap) (locs : List Loc) (ls : Array Slot), z_I D dA B h s.heap H locs → lv_has ls 2 [(0, .ref v0), (1, .int v1)] → f_Mod_readText_32 N  n v0 v1 h = some h' → W p l e (z_rm 2 42) s m args below meth c H locs 0 0 (MQ below (z_Q D dA B none h') args s 0 0 (fun q => B ≤ q)) (F0 m 32 ls []) := by
  have hx := z_hx X
  have hb := z_hb X
  intro n
  induction n with
  | zero => intro v0 v1 h H locs ls hI hl hf; rw [f_Mod_readText_32] at hf; cases hf
  | succ n ih =>
    intro v0 v1 h H locs ls hI hl hf
    rw [f_Mod_readText_32] at hf
    refine lv_aload_n hx hb d_Mod_readText_32 rfl (lv_at hl 0 rfl) ?_
    obtain ⟨x1, ex1, hf⟩ := z_bs hf
    refine z_getF X hI (k := 48) (ci := 12) (gI_s ex1) i_Mod rfl (by decide) wf_Mod_179 d_Mod_readText_33 ?_
    refine lv_if_ne (tgt := 77) hx hb d_Mod_readText_36 (by decide) (fun c2 => ?_) (fun c2 => ?_)
    · rw [if_neg c2] at hf
      exact s_Mod_readText_77 X  v0 v1 h _ _ _ hI (lv_sub hl [0, 1] rfl) hf
    · rw [if_pos c2] at hf
      refine lv_aload_n hx hb d_Mod_readText_39 rfl (lv_at hl 0 rfl) ?_
      obtain ⟨u3, eu3, hf⟩ := z_bs hf
      obtain ⟨r4, er4, hf⟩ := z_bs hf
      refine z_callV (As := []) (rest := []) (r := (some (.int r4.1))) (h' := r4.2) X hI eu3 (s_Mod_here er4) rfl rfl wm_Mod_183 yi_Mod_here rfl hl.1 rfl (Nat.le_of_ble_eq_true rfl) (by decide) (by decide) d_Mod_readText_40 (fun H locs hI => ?_)
      refine W.eq (g2 := F0 m 43 ls [.int (r4.1)]) rfl ?_
      refine lv_iconst (v := (-1)) hx hb d_Mod_readText_43 (by decide) ?_
      refine lv_icmp_eq (tgt := 77) hx hb d_Mod_readText_44 (by decide) (fun c5 => ?_) (fun c5 => ?_)
      · rw [if_pos c5] at hf
        exact s_Mod_readText_77 X  v0 v1 r4.2 _ _ _ hI (lv_sub hl [0, 1] rfl) hf
      · rw [if_neg c5] at hf
        refine lv_aload_n hx hb d_Mod_readText_47 rfl (lv_at hl 0 rfl) ?_
        obtain ⟨u6, eu6, hf⟩ := z_bs hf
        obtain ⟨r7, er7, hf⟩ := z_bs hf
        refine z_callV (As := []) (rest := []) (r := (some (.int r7.1))) (h' := r7.2) X hI eu6 (s_Mod_here er7) rfl rfl wm_Mod_183 yi_Mod_here rfl hl.1 rfl (Nat.le_of_ble_eq_true rfl) (by decide) (by decide) d_Mod_readText_48 (fun H locs hI => ?_)
        refine W.eq (g2 := F0 m 51 ls [.int (r7.1)]) rfl ?_
        refine lv_bipush (v := 10) hx hb d_Mod_readText_51 (by decide) ?_
        refine lv_icmp_eq (tgt := 77) hx hb d_Mod_readText_53 (by decide) (fun c8 => ?_) (fun c8 => ?_)
        · rw [if_pos c8] at hf
          exact s_Mod_readText_77 X  v0 v1 r7.2 _ _ _ hI (lv_sub hl [0, 1] rfl) hf
        · rw [if_neg c8] at hf
          refine lv_aload_n hx hb d_Mod_readText_56 rfl (lv_at hl 0 rfl) ?_
          refine lv_aload_n hx hb d_Mod_readText_57 rfl (lv_at hl 0 rfl) ?_
          obtain ⟨u9, eu9, hf⟩ := z_bs hf
          obtain ⟨r10, er10, hf⟩ := z_bs hf
          refine z_callV (As := []) (rest := [.ref v0]) (r := (some (.int r10.1))) (h' := r10.2) X hI eu9 (s_Mod_here er10) rfl rfl wm_Mod_183 yi_Mod_here rfl hl.1 rfl (Nat.le_of_ble_eq_true rfl) (by decide) (by decide) d_Mod_readText_58 (fun H locs hI => ?_)
          refine W.eq (g2 := F0 m 61 ls [.int (r10.1), .ref v0]) rfl ?_
          obtain ⟨u11, eu11, hf⟩ := z_bs hf
          obtain ⟨r12, er12, hf⟩ := z_bs hf
          refine z_callV (As := [.int (r10.1)]) (rest := []) (r := none) (h' := r12) X hI eu11 (s_Mod_keep er12) rfl rfl wm_Mod_243 yi_Mod_keep rfl hl.1 rfl (Nat.le_of_ble_eq_true rfl) (by decide) (by decide) d_Mod_readText_61 (fun H locs hI => ?_)
          refine W.eq (g2 := F0 m 64 ls []) rfl ?_
          refine lv_aload_n hx hb d_Mod_readText_64 rfl (lv_at hl 0 rfl) ?_
          refine lv_dup hx hb d_Mod_readText_65 rfl ?_
          obtain ⟨x13, ex13, hf⟩ := z_bs hf
          refine z_getF X hI (k := 41) (ci := 12) (gI_s ex13) i_Mod rfl (by decide) wf_Mod_176 d_Mod_readText_66 ?_
          refine lv_iconst (v := 1) hx hb d_Mod_readText_69 (by decide) ?_
          refine lv_iadd hx hb d_Mod_readText_70 ?_
          obtain ⟨h14, eh14, hf⟩ := z_bs hf
          refine z_putF X hI (k := 41) (ci := 12) (ty0 := t_Mod) eh14 i_Mod t_Mod_ok n_Mod rfl (by decide) wf_Mod_176 rfl rfl rfl d_Mod_readText_71 (fun H locs hI => ?_)
          refine lv_goto (tgt := 32) hx hb d_Mod_readText_74 (by decide) ?_
          exact ih v0 v1 h14 _ _ _ hI (lv_sub hl [0, 1] rfl) hf
def f_Mod_readText_16 (N : Nat)  (v0 : Nat) (v1 : Int32) (h : z_H) : Option z_H :=
  z_b (gO h v0 12) fun u1 =>
  z_b (f_Mod_expect N v0 32 h) fun r2 =>
  z_b (gR r2 v0 12 15) fun x3 =>
  z_b (gO r2 v0 12) fun u4 =>
  z_b (f_Mod_stored N v0 r2) fun r5 =>
  z_b (uI r5.2 x3 0 v1 (r5.1)) fun h6 =>
  f_Mod_readText_32 N N v0 v1 h6
set_option maxRecDepth 20000 in
set_option maxHeartbeats 2000000 in
theorem s_Mod_readText_16 (X : z_X p s m args meth c prog_14_method_29_code 2 none Ts "StreamForgeModel" D dA B) {N : Nat} {h' : z_H}   : ∀ (v0 : Nat) (v1 : Int32) (h : z_H) (H : Heap) (locs : List Loc) (ls : Array Slot), z_I D dA B h s.heap H locs → lv_has ls 2 [(0, .ref v0), (1, .int v1)] → f_Mod_readText_16 N  v0 v1 h = some h' → W p l e (z_rm 2 42) s m args below meth c H locs 0 0 (MQ below (z_Q D dA B none h') args s 0 0 (fun q => B ≤ q)) (F0 m 16 ls []) := by
  have hx := z_hx X
  have hb := z_hb X
  intro v0 v1 h H locs ls hI hl hf
  unfold f_Mod_readText_16 at hf
  refine lv_aload_n hx hb d_Mod_readText_16 rfl (lv_at hl 0 rfl) ?_
  refine lv_bipush (v := 32) hx hb d_Mod_readText_17 (by decide) ?_
  obtain ⟨u1, eu1, hf⟩ := z_bs hf
  obtain ⟨r2, er2, hf⟩ := z_bs hf
  refine z_callV (As := [.int 32]) (rest := []) (r := none) (h' := r2) X hI eu1 (s_Mod_expect er2) rfl rfl wm_Mod_246 yi_Mod_expect rfl hl.1 rfl (Nat.le_of_ble_eq_true rfl) (by decide) (by decide) d_Mod_readText_19 (fun H locs hI => ?_)
  refine W.eq (g2 := F0 m 22 ls []) rfl ?_
  refine lv_aload_n hx hb d_Mod_readText_22 rfl (lv_at hl 0 rfl) ?_
  obtain ⟨x3, ex3, hf⟩ := z_bs hf
  refine z_getF X hI (k := 15) (ci := 12) (gR_s ex3) i_Mod rfl (by decide) wf_Mod_41 d_Mod_readText_23 ?_
  refine lv_iload_n hx hb d_Mod_readText_26 rfl (lv_at hl 1 rfl) ?_
  refine lv_aload_n hx hb d_Mod_readText_27 rfl (lv_at hl 0 rfl) ?_
  obtain ⟨u4, eu4, hf⟩ := z_bs hf
  obtain ⟨r5, er5, hf⟩ := z_bs hf
  refine z_callV (As := []) (rest := [.int v1, .ref x3]) (r := (some (.int r5.1))) (h' := r5.2) X hI eu4 (s_Mod_stored er5) rfl rfl wm_Mod_240 yi_Mod_stored rfl hl.1 rfl (Nat.le_of_ble_eq_true rfl) (by decide) (by decide) d_Mod_readText_28 (fun H locs hI => ?_)
  refine W.eq (g2 := F0 m 31 ls [.int (r5.1), .int v1, .ref x3]) rfl ?_
  obtain ⟨h6, eh6, hf⟩ := z_bs hf
  refine z_iast X hI eh6 d_Mod_readText_31 (fun H locs hI => ?_)
  exact s_Mod_readText_32 X  N v0 v1 h6 _ _ _ hI (lv_sub hl [0, 1] rfl) hf
def f_Mod_readText (N : Nat) (v0 : Nat) (v1 : Int32) (h : z_H) : Option z_H :=
  z_b (gO h v0 12) fun u1 =>
  z_b (f_Mod_here N v0 h) fun r2 =>
  if (r2.1) = (-1) then
  (z_b (gI r2.2 v0 12 3) fun x4 =>
  z_b (gO r2.2 v0 12) fun u5 =>
  z_b (f_Mod_wrong N v0 x4 r2.2) fun r6 =>
  f_Mod_readText_16 N v0 v1 r6)
  else
  (f_Mod_readText_16 N v0 v1 r2.2)
set_option maxRecDepth 20000 in
set_option maxHeartbeats 2000000 in
theorem s_Mod_readText {l : Launch} {D : va_G} {dA : Nat → ClassId} {B N : Nat} {v0 : Nat} {v1 : Int32} {h h' : z_H} (hf : f_Mod_readText N v0 v1 h = some h') : z_Met l y_Mod_readText prog_14_method_29_code 2 none 2 42 D dA B [.ref v0, .int v1] h none h' := by
  refine z_of (by decide) (Nat.le_of_ble_eq_true rfl) (fun p e s m below meth c ls X hI hl => ?_)
  have hx := z_hx X
  have hb := z_hb X
  have hl : lv_has ls 2 [(0, .ref v0), (1, .int v1)] := hl
  unfold f_Mod_readText at hf
  obtain ⟨locs, hlo⟩ : ∃ z : List Loc, z = [] := ⟨_, rfl⟩
  rw [← hlo] at hI ⊢
  refine lv_aload_n hx hb d_Mod_readText_0 rfl (lv_at hl 0 rfl) ?_
  obtain ⟨u1, eu1, hf⟩ := z_bs hf
  obtain ⟨r2, er2, hf⟩ := z_bs hf
  refine z_callV (As := []) (rest := []) (r := (some (.int r2.1))) (h' := r2.2) X hI eu1 (s_Mod_here er2) rfl rfl wm_Mod_183 yi_Mod_here rfl hl.1 rfl (Nat.le_of_ble_eq_true rfl) (by decide) (by decide) d_Mod_readText_1 (fun H locs hI => ?_)
  refine W.eq (g2 := F0 m 4 ls [.int (r2.1)]) rfl ?_
  refine lv_iconst (v := (-1)) hx hb d_Mod_readText_4 (by decide) ?_
  refine lv_icmp_ne (tgt := 16) hx hb d_Mod_readText_5 (by decide) (fun c3 => ?_) (fun c3 => ?_)
  · rw [if_neg c3] at hf
    exact s_Mod_readText_16 X  v0 v1 r2.2 _ _ _ hI (lv_sub hl [0, 1] rfl) hf
  · rw [if_pos c3] at hf
    refine lv_aload_n hx hb d_Mod_readText_8 rfl (lv_at hl 0 rfl) ?_
    refine lv_aload_n hx hb d_Mod_readText_9 rfl (lv_at hl 0 rfl) ?_
    obtain ⟨x4, ex4, hf⟩ := z_bs hf
    refine z_getF X hI (k := 3) (ci := 12) (gI_s ex4) i_Mod rfl (by decide) wf_Mod_166 d_Mod_readText_10 ?_
    obtain ⟨u5, eu5, hf⟩ := z_bs hf
    obtain ⟨r6, er6, hf⟩ := z_bs hf
    refine z_callV (As := [.int x4]) (rest := []) (r := none) (h' := r6) X hI eu5 (s_Mod_wrong er6) rfl rfl wm_Mod_187 yi_Mod_wrong rfl hl.1 rfl (Nat.le_of_ble_eq_true rfl) (by decide) (by decide) d_Mod_readText_13 (fun H locs hI => ?_)
    refine W.eq (g2 := F0 m 16 ls []) rfl ?_
    exact s_Mod_readText_16 X  v0 v1 r6 _ _ _ hI (lv_sub hl [0, 1] rfl) hf
def f_Mod_isPlain (N : Nat) (v0 : Int32) (h : z_H) : Option (Int32 × z_H) :=
  if v0 = 100 then
  (some (1, h))
  else
  (if v0 = 68 then
  (some (1, h))
  else
  (if v0 = 112 then
  (some (1, h))
  else
  (if v0 = 80 then
  (some (1, h))
  else
  (if v0 = 110 then
  (some (1, h))
  else
  (if v0 = 78 then
  (some (1, h))
  else
  (if v0 = 104 then
  (some (1, h))
  else
  (if v0 = 72 then
  (some (1, h))
  else
  (if v0 = 103 then
  (some (1, h))
  else
  (if v0 = 71 then
  (some (1, h))
  else
  (if v0 = 120 then
  (some (1, h))
  else
  (if v0 = 61 then
  (some (1, h))
  else
  (if v0 = 113 then
  (some (1, h))
  else
  (some (0, h))))))))))))))
set_option maxRecDepth 20000 in
set_option maxHeartbeats 2000000 in
theorem s_Mod_isPlain {l : Launch} {D : va_G} {dA : Nat → ClassId} {B N : Nat} {v0 : Int32} {h h' : z_H} {r : Int32} (hf : f_Mod_isPlain N v0 h = some (r, h')) : z_Met l y_Mod_isPlain prog_14_method_30_code 1 (some .boolean) 0 0 D dA B [.int v0] h (some (.int r)) h' := by
  refine z_of (by decide) (Nat.le_of_ble_eq_true rfl) (fun p e s m below meth c ls X hI hl => ?_)
  have hx := z_hx X
  have hb := z_hb X
  have hl : lv_has ls 1 [(0, .int v0)] := hl
  unfold f_Mod_isPlain at hf
  obtain ⟨locs, hlo⟩ : ∃ z : List Loc, z = [] := ⟨_, rfl⟩
  rw [← hlo] at hI ⊢
  refine lv_iload_n hx hb d_Mod_isPlain_0 rfl (lv_at hl 0 rfl) ?_
  refine lv_bipush (v := 100) hx hb d_Mod_isPlain_1 (by decide) ?_
  refine lv_icmp_eq (tgt := 78) hx hb d_Mod_isPlain_3 (by decide) (fun c1 => ?_) (fun c1 => ?_)
  · rw [if_pos c1] at hf
    refine lv_iconst (v := 1) hx hb d_Mod_isPlain_78 (by decide) ?_
    refine lv_goto (tgt := 83) hx hb d_Mod_isPlain_79 (by decide) ?_
    cases hf
    exact z_zret X hI (Or.inr rfl) d_Mod_isPlain_83
  · rw [if_neg c1] at hf
    refine lv_iload_n hx hb d_Mod_isPlain_6 rfl (lv_at hl 0 rfl) ?_
    refine lv_bipush (v := 68) hx hb d_Mod_isPlain_7 (by decide) ?_
    refine lv_icmp_eq (tgt := 78) hx hb d_Mod_isPlain_9 (by decide) (fun c2 => ?_) (fun c2 => ?_)
    · rw [if_pos c2] at hf
      refine lv_iconst (v := 1) hx hb d_Mod_isPlain_78 (by decide) ?_
      refine lv_goto (tgt := 83) hx hb d_Mod_isPlain_79 (by decide) ?_
      cases hf
      exact z_zret X hI (Or.inr rfl) d_Mod_isPlain_83
    · rw [if_neg c2] at hf
      refine lv_iload_n hx hb d_Mod_isPlain_12 rfl (lv_at hl 0 rfl) ?_
      refine lv_bipush (v := 112) hx hb d_Mod_isPlain_13 (by decide) ?_
      refine lv_icmp_eq (tgt := 78) hx hb d_Mod_isPlain_15 (by decide) (fun c3 => ?_) (fun c3 => ?_)
      · rw [if_pos c3] at hf
        refine lv_iconst (v := 1) hx hb d_Mod_isPlain_78 (by decide) ?_
        refine lv_goto (tgt := 83) hx hb d_Mod_isPlain_79 (by decide) ?_
        cases hf
        exact z_zret X hI (Or.inr rfl) d_Mod_isPlain_83
      · rw [if_neg c3] at hf
        refine lv_iload_n hx hb d_Mod_isPlain_18 rfl (lv_at hl 0 rfl) ?_
        refine lv_bipush (v := 80) hx hb d_Mod_isPlain_19 (by decide) ?_
        refine lv_icmp_eq (tgt := 78) hx hb d_Mod_isPlain_21 (by decide) (fun c4 => ?_) (fun c4 => ?_)
        · rw [if_pos c4] at hf
          refine lv_iconst (v := 1) hx hb d_Mod_isPlain_78 (by decide) ?_
          refine lv_goto (tgt := 83) hx hb d_Mod_isPlain_79 (by decide) ?_
          cases hf
          exact z_zret X hI (Or.inr rfl) d_Mod_isPlain_83
        · rw [if_neg c4] at hf
          refine lv_iload_n hx hb d_Mod_isPlain_24 rfl (lv_at hl 0 rfl) ?_
          refine lv_bipush (v := 110) hx hb d_Mod_isPlain_25 (by decide) ?_
          refine lv_icmp_eq (tgt := 78) hx hb d_Mod_isPlain_27 (by decide) (fun c5 => ?_) (fun c5 => ?_)
          · rw [if_pos c5] at hf
            refine lv_iconst (v := 1) hx hb d_Mod_isPlain_78 (by decide) ?_
            refine lv_goto (tgt := 83) hx hb d_Mod_isPlain_79 (by decide) ?_
            cases hf
            exact z_zret X hI (Or.inr rfl) d_Mod_isPlain_83
          · rw [if_neg c5] at hf
            refine lv_iload_n hx hb d_Mod_isPlain_30 rfl (lv_at hl 0 rfl) ?_
            refine lv_bipush (v := 78) hx hb d_Mod_isPlain_31 (by decide) ?_
            refine lv_icmp_eq (tgt := 78) hx hb d_Mod_isPlain_33 (by decide) (fun c6 => ?_) (fun c6 => ?_)
            · rw [if_pos c6] at hf
              refine lv_iconst (v := 1) hx hb d_Mod_isPlain_78 (by decide) ?_
              refine lv_goto (tgt := 83) hx hb d_Mod_isPlain_79 (by decide) ?_
              cases hf
              exact z_zret X hI (Or.inr rfl) d_Mod_isPlain_83
            · rw [if_neg c6] at hf
              refine lv_iload_n hx hb d_Mod_isPlain_36 rfl (lv_at hl 0 rfl) ?_
              refine lv_bipush (v := 104) hx hb d_Mod_isPlain_37 (by decide) ?_
              refine lv_icmp_eq (tgt := 78) hx hb d_Mod_isPlain_39 (by decide) (fun c7 => ?_) (fun c7 => ?_)
              · rw [if_pos c7] at hf
                refine lv_iconst (v := 1) hx hb d_Mod_isPlain_78 (by decide) ?_
                refine lv_goto (tgt := 83) hx hb d_Mod_isPlain_79 (by decide) ?_
                cases hf
                exact z_zret X hI (Or.inr rfl) d_Mod_isPlain_83
              · rw [if_neg c7] at hf
                refine lv_iload_n hx hb d_Mod_isPlain_42 rfl (lv_at hl 0 rfl) ?_
                refine lv_bipush (v := 72) hx hb d_Mod_isPlain_43 (by decide) ?_
                refine lv_icmp_eq (tgt := 78) hx hb d_Mod_isPlain_45 (by decide) (fun c8 => ?_) (fun c8 => ?_)
                · rw [if_pos c8] at hf
                  refine lv_iconst (v := 1) hx hb d_Mod_isPlain_78 (by decide) ?_
                  refine lv_goto (tgt := 83) hx hb d_Mod_isPlain_79 (by decide) ?_
                  cases hf
                  exact z_zret X hI (Or.inr rfl) d_Mod_isPlain_83
                · rw [if_neg c8] at hf
                  refine lv_iload_n hx hb d_Mod_isPlain_48 rfl (lv_at hl 0 rfl) ?_
                  refine lv_bipush (v := 103) hx hb d_Mod_isPlain_49 (by decide) ?_
                  refine lv_icmp_eq (tgt := 78) hx hb d_Mod_isPlain_51 (by decide) (fun c9 => ?_) (fun c9 => ?_)
                  · rw [if_pos c9] at hf
                    refine lv_iconst (v := 1) hx hb d_Mod_isPlain_78 (by decide) ?_
                    refine lv_goto (tgt := 83) hx hb d_Mod_isPlain_79 (by decide) ?_
                    cases hf
                    exact z_zret X hI (Or.inr rfl) d_Mod_isPlain_83
                  · rw [if_neg c9] at hf
                    refine lv_iload_n hx hb d_Mod_isPlain_54 rfl (lv_at hl 0 rfl) ?_
                    refine lv_bipush (v := 71) hx hb d_Mod_isPlain_55 (by decide) ?_
                    refine lv_icmp_eq (tgt := 78) hx hb d_Mod_isPlain_57 (by decide) (fun c10 => ?_) (fun c10 => ?_)
                    · rw [if_pos c10] at hf
                      refine lv_iconst (v := 1) hx hb d_Mod_isPlain_78 (by decide) ?_
                      refine lv_goto (tgt := 83) hx hb d_Mod_isPlain_79 (by decide) ?_
                      cases hf
                      exact z_zret X hI (Or.inr rfl) d_Mod_isPlain_83
                    · rw [if_neg c10] at hf
                      refine lv_iload_n hx hb d_Mod_isPlain_60 rfl (lv_at hl 0 rfl) ?_
                      refine lv_bipush (v := 120) hx hb d_Mod_isPlain_61 (by decide) ?_
                      refine lv_icmp_eq (tgt := 78) hx hb d_Mod_isPlain_63 (by decide) (fun c11 => ?_) (fun c11 => ?_)
                      · rw [if_pos c11] at hf
                        refine lv_iconst (v := 1) hx hb d_Mod_isPlain_78 (by decide) ?_
                        refine lv_goto (tgt := 83) hx hb d_Mod_isPlain_79 (by decide) ?_
                        cases hf
                        exact z_zret X hI (Or.inr rfl) d_Mod_isPlain_83
                      · rw [if_neg c11] at hf
                        refine lv_iload_n hx hb d_Mod_isPlain_66 rfl (lv_at hl 0 rfl) ?_
                        refine lv_bipush (v := 61) hx hb d_Mod_isPlain_67 (by decide) ?_
                        refine lv_icmp_eq (tgt := 78) hx hb d_Mod_isPlain_69 (by decide) (fun c12 => ?_) (fun c12 => ?_)
                        · rw [if_pos c12] at hf
                          refine lv_iconst (v := 1) hx hb d_Mod_isPlain_78 (by decide) ?_
                          refine lv_goto (tgt := 83) hx hb d_Mod_isPlain_79 (by decide) ?_
                          cases hf
                          exact z_zret X hI (Or.inr rfl) d_Mod_isPlain_83
                        · rw [if_neg c12] at hf
                          refine lv_iload_n hx hb d_Mod_isPlain_72 rfl (lv_at hl 0 rfl) ?_
                          refine lv_bipush (v := 113) hx hb d_Mod_isPlain_73 (by decide) ?_
                          refine lv_icmp_ne (tgt := 82) hx hb d_Mod_isPlain_75 (by decide) (fun c13 => ?_) (fun c13 => ?_)
                          · rw [if_neg c13] at hf
                            refine lv_iconst (v := 0) hx hb d_Mod_isPlain_82 (by decide) ?_
                            cases hf
                            exact z_zret X hI (Or.inl rfl) d_Mod_isPlain_83
                          · rw [if_pos c13] at hf
                            refine lv_iconst (v := 1) hx hb d_Mod_isPlain_78 (by decide) ?_
                            refine lv_goto (tgt := 83) hx hb d_Mod_isPlain_79 (by decide) ?_
                            cases hf
                            exact z_zret X hI (Or.inr rfl) d_Mod_isPlain_83
def f_Mod_closed (N : Nat) (v0 : Nat) (h : z_H) : Option z_H :=
  z_b (gO h v0 12) fun u1 =>
  z_b (f_Mod_here N v0 h) fun r2 =>
  z_b (some (r2.1)) fun x3 =>
  z_b (gI r2.2 v0 12 48) fun x4 =>
  if x4 = 0 then
  (if x3 = (-1) then
  (some r2.2)
  else
  (if x3 = 32 then
  (some r2.2)
  else
  (if x3 = 10 then
  (some r2.2)
  else
  (if x3 = 59 then
  (some r2.2)
  else
  (if x3 = 125 then
  (some r2.2)
  else
  (z_b (gI r2.2 v0 12 41) fun x11 =>
  z_b (gO r2.2 v0 12) fun u12 =>
  z_b (f_Mod_wrong N v0 x11 r2.2) fun r13 =>
  some r13))))))
  else
  (some r2.2)
set_option maxRecDepth 20000 in
set_option maxHeartbeats 2000000 in
theorem s_Mod_closed {l : Launch} {D : va_G} {dA : Nat → ClassId} {B N : Nat} {v0 : Nat} {h h' : z_H} (hf : f_Mod_closed N v0 h = some h') : z_Met l y_Mod_closed prog_14_method_31_code 2 none 1 21 D dA B [.ref v0] h none h' := by
  refine z_of (by decide) (Nat.le_of_ble_eq_true rfl) (fun p e s m below meth c ls X hI hl => ?_)
  have hx := z_hx X
  have hb := z_hb X
  have hl : lv_has ls 2 [(0, .ref v0)] := hl
  unfold f_Mod_closed at hf
  obtain ⟨locs, hlo⟩ : ∃ z : List Loc, z = [] := ⟨_, rfl⟩
  rw [← hlo] at hI ⊢
  refine lv_aload_n hx hb d_Mod_closed_0 rfl (lv_at hl 0 rfl) ?_
  obtain ⟨u1, eu1, hf⟩ := z_bs hf
  obtain ⟨r2, er2, hf⟩ := z_bs hf
  refine z_callV (As := []) (rest := []) (r := (some (.int r2.1))) (h' := r2.2) X hI eu1 (s_Mod_here er2) rfl rfl wm_Mod_183 yi_Mod_here rfl hl.1 rfl (Nat.le_of_ble_eq_true rfl) (by decide) (by decide) d_Mod_closed_1 (fun H locs hI => ?_)
  refine W.eq (g2 := F0 m 4 ls [.int (r2.1)]) rfl ?_
  obtain ⟨x3, ex3, hf⟩ := z_bs hf
  refine z_topi (Option.some.inj ex3) ?_
  refine lv_istore_n (lv' := [(1, .int x3), (0, .ref v0)]) hx hb d_Mod_closed_4 rfl hl (by decide) rfl (fun ls hl => ?_)
  refine lv_aload_n hx hb d_Mod_closed_5 rfl (lv_at hl 1 rfl) ?_
  obtain ⟨x4, ex4, hf⟩ := z_bs hf
  refine z_getF X hI (k := 48) (ci := 12) (gI_s ex4) i_Mod rfl (by decide) wf_Mod_179 d_Mod_closed_6 ?_
  refine lv_if_ne (tgt := 49) hx hb d_Mod_closed_9 (by decide) (fun c5 => ?_) (fun c5 => ?_)
  · rw [if_neg c5] at hf
    cases hf
    exact z_vret X hI d_Mod_closed_49
  · rw [if_pos c5] at hf
    refine lv_iload_n hx hb d_Mod_closed_12 rfl (lv_at hl 0 rfl) ?_
    refine lv_iconst (v := (-1)) hx hb d_Mod_closed_13 (by decide) ?_
    refine lv_icmp_eq (tgt := 49) hx hb d_Mod_closed_14 (by decide) (fun c6 => ?_) (fun c6 => ?_)
    · rw [if_pos c6] at hf
      cases hf
      exact z_vret X hI d_Mod_closed_49
    · rw [if_neg c6] at hf
      refine lv_iload_n hx hb d_Mod_closed_17 rfl (lv_at hl 0 rfl) ?_
      refine lv_bipush (v := 32) hx hb d_Mod_closed_18 (by decide) ?_
      refine lv_icmp_eq (tgt := 49) hx hb d_Mod_closed_20 (by decide) (fun c7 => ?_) (fun c7 => ?_)
      · rw [if_pos c7] at hf
        cases hf
        exact z_vret X hI d_Mod_closed_49
      · rw [if_neg c7] at hf
        refine lv_iload_n hx hb d_Mod_closed_23 rfl (lv_at hl 0 rfl) ?_
        refine lv_bipush (v := 10) hx hb d_Mod_closed_24 (by decide) ?_
        refine lv_icmp_eq (tgt := 49) hx hb d_Mod_closed_26 (by decide) (fun c8 => ?_) (fun c8 => ?_)
        · rw [if_pos c8] at hf
          cases hf
          exact z_vret X hI d_Mod_closed_49
        · rw [if_neg c8] at hf
          refine lv_iload_n hx hb d_Mod_closed_29 rfl (lv_at hl 0 rfl) ?_
          refine lv_bipush (v := 59) hx hb d_Mod_closed_30 (by decide) ?_
          refine lv_icmp_eq (tgt := 49) hx hb d_Mod_closed_32 (by decide) (fun c9 => ?_) (fun c9 => ?_)
          · rw [if_pos c9] at hf
            cases hf
            exact z_vret X hI d_Mod_closed_49
          · rw [if_neg c9] at hf
            refine lv_iload_n hx hb d_Mod_closed_35 rfl (lv_at hl 0 rfl) ?_
            refine lv_bipush (v := 125) hx hb d_Mod_closed_36 (by decide) ?_
            refine lv_icmp_eq (tgt := 49) hx hb d_Mod_closed_38 (by decide) (fun c10 => ?_) (fun c10 => ?_)
            · rw [if_pos c10] at hf
              cases hf
              exact z_vret X hI d_Mod_closed_49
            · rw [if_neg c10] at hf
              refine lv_aload_n hx hb d_Mod_closed_41 rfl (lv_at hl 1 rfl) ?_
              refine lv_aload_n hx hb d_Mod_closed_42 rfl (lv_at hl 1 rfl) ?_
              obtain ⟨x11, ex11, hf⟩ := z_bs hf
              refine z_getF X hI (k := 41) (ci := 12) (gI_s ex11) i_Mod rfl (by decide) wf_Mod_176 d_Mod_closed_43 ?_
              obtain ⟨u12, eu12, hf⟩ := z_bs hf
              obtain ⟨r13, er13, hf⟩ := z_bs hf
              refine z_callV (As := [.int x11]) (rest := []) (r := none) (h' := r13) X hI eu12 (s_Mod_wrong er13) rfl rfl wm_Mod_187 yi_Mod_wrong rfl hl.1 rfl (Nat.le_of_ble_eq_true rfl) (by decide) (by decide) d_Mod_closed_46 (fun H locs hI => ?_)
              refine W.eq (g2 := F0 m 49 ls []) rfl ?_
              cases hf
              exact z_vret X hI d_Mod_closed_49
def f_Mod_label_97 (N : Nat)  (v0 : Nat) (h : z_H) : Option z_H :=
  z_b (gO h v0 12) fun u1 =>
  z_b (f_Mod_closed N v0 h) fun r2 =>
  some r2
set_option maxRecDepth 20000 in
set_option maxHeartbeats 2000000 in
theorem s_Mod_label_97 (X : z_X p s m args meth c prog_14_method_32_code 4 none Ts "StreamForgeModel" D dA B) {N : Nat} {h' : z_H}   : ∀ (v0 : Nat) (h : z_H) (H : Heap) (locs : List Loc) (ls : Array Slot), z_I D dA B h s.heap H locs → lv_has ls 4 [(0, .ref v0)] → f_Mod_label_97 N  v0 h = some h' → W p l e (z_rm 2 42) s m args below meth c H locs 0 0 (MQ below (z_Q D dA B none h') args s 0 0 (fun q => B ≤ q)) (F0 m 97 ls []) := by
  have hx := z_hx X
  have hb := z_hb X
  intro v0 h H locs ls hI hl hf
  unfold f_Mod_label_97 at hf
  refine lv_aload_n hx hb d_Mod_label_97 rfl (lv_at hl 0 rfl) ?_
  obtain ⟨u1, eu1, hf⟩ := z_bs hf
  obtain ⟨r2, er2, hf⟩ := z_bs hf
  refine z_callV (As := []) (rest := []) (r := none) (h' := r2) X hI eu1 (s_Mod_closed er2) rfl rfl wm_Mod_252 yi_Mod_closed rfl hl.1 rfl (Nat.le_of_ble_eq_true rfl) (by decide) (by decide) d_Mod_label_98 (fun H locs hI => ?_)
  refine W.eq (g2 := F0 m 101 ls []) rfl ?_
  cases hf
  exact z_vret X hI d_Mod_label_101
def f_Mod_label_48 (N : Nat)  (v0 : Nat) (s0 : Nat) (s1 : Int32) (h : z_H) : Option z_H :=
  z_b (gO h s0 12) fun u1 =>
  z_b (f_Mod_wrong N s0 s1 h) fun r2 =>
  f_Mod_label_97 N v0 r2
set_option maxRecDepth 20000 in
set_option maxHeartbeats 2000000 in
theorem s_Mod_label_48 (X : z_X p s m args meth c prog_14_method_32_code 4 none Ts "StreamForgeModel" D dA B) {N : Nat} {h' : z_H}   : ∀ (v0 : Nat) (s0 : Nat) (s1 : Int32) (h : z_H) (H : Heap) (locs : List Loc) (ls : Array Slot), z_I D dA B h s.heap H locs → lv_has ls 4 [(0, .ref v0)] → f_Mod_label_48 N  v0 s0 s1 h = some h' → W p l e (z_rm 2 42) s m args below meth c H locs 0 0 (MQ below (z_Q D dA B none h') args s 0 0 (fun q => B ≤ q)) (F0 m 48 ls [.int s1, .ref s0]) := by
  have hx := z_hx X
  have hb := z_hb X
  intro v0 s0 s1 h H locs ls hI hl hf
  unfold f_Mod_label_48 at hf
  obtain ⟨u1, eu1, hf⟩ := z_bs hf
  obtain ⟨r2, er2, hf⟩ := z_bs hf
  refine z_callV (As := [.int s1]) (rest := []) (r := none) (h' := r2) X hI eu1 (s_Mod_wrong er2) rfl rfl wm_Mod_187 yi_Mod_wrong rfl hl.1 rfl (Nat.le_of_ble_eq_true rfl) (by decide) (by decide) d_Mod_label_48 (fun H locs hI => ?_)
  refine W.eq (g2 := F0 m 51 ls []) rfl ?_
  refine lv_goto (tgt := 97) hx hb d_Mod_label_51 (by decide) ?_
  exact s_Mod_label_97 X  v0 r2 _ _ _ hI (lv_sub hl [0] rfl) hf
def f_Mod_label (N : Nat) (v0 : Nat) (v1 : Int32) (v2 : Int32) (h : z_H) : Option z_H :=
  z_b (gO h v0 12) fun u1 =>
  z_b (f_Mod_here N v0 h) fun r2 =>
  z_b (some (r2.1)) fun x3 =>
  if v2 = 0 then
  (z_b (gI r2.2 v0 12 41) fun x20 =>
  z_b (gO r2.2 v0 12) fun u21 =>
  z_b (f_Mod_wrong N v0 (x20 - 1) r2.2) fun r22 =>
  some r22)
  else
  (z_b (f_Mod_in N x3 97 122 r2.2) fun r5 =>
  if (r5.1) = 0 then
  (if x3 = (-1) then
  (z_b (gI r5.2 v0 12 3) fun x19 =>
  f_Mod_label_48 N v0 v0 x19 r5.2)
  else
  (z_b (gI r5.2 v0 12 41) fun x18 =>
  f_Mod_label_48 N v0 v0 x18 r5.2))
  else
  (z_b (gR r5.2 v0 12 39) fun x7 =>
  z_b (aI r5.2 x7 0 (x3 - 97)) fun x8 =>
  if x8 < 0 then
  (z_b (gR r5.2 v0 12 39) fun x10 =>
  z_b (uI r5.2 x10 0 (x3 - 97) v1) fun h11 =>
  z_b (gI h11 v0 12 41) fun x12 =>
  z_b (sF h11 v0 12 41 (.int (x12 + 1))) fun h13 =>
  f_Mod_label_97 N v0 h13)
  else
  (z_b (gI r5.2 v0 12 41) fun x14 =>
  z_b (gO r5.2 v0 12) fun u15 =>
  z_b (f_Mod_wrong N v0 x14 r5.2) fun r16 =>
  f_Mod_label_97 N v0 r16)))
set_option maxRecDepth 20000 in
set_option maxHeartbeats 2000000 in
theorem s_Mod_label {l : Launch} {D : va_G} {dA : Nat → ClassId} {B N : Nat} {v0 : Nat} {v1 : Int32} {v2 : Int32} {h h' : z_H} (hf : f_Mod_label N v0 v1 v2 h = some h') : z_Met l y_Mod_label prog_14_method_32_code 4 none 2 42 D dA B [.ref v0, .int v1, .int v2] h none h' := by
  refine z_of (by decide) (Nat.le_of_ble_eq_true rfl) (fun p e s m below meth c ls X hI hl => ?_)
  have hx := z_hx X
  have hb := z_hb X
  have hl : lv_has ls 4 [(0, .ref v0), (1, .int v1), (2, .int v2)] := hl
  unfold f_Mod_label at hf
  obtain ⟨locs, hlo⟩ : ∃ z : List Loc, z = [] := ⟨_, rfl⟩
  rw [← hlo] at hI ⊢
  refine lv_aload_n hx hb d_Mod_label_0 rfl (lv_at hl 0 rfl) ?_
  obtain ⟨u1, eu1, hf⟩ := z_bs hf
  obtain ⟨r2, er2, hf⟩ := z_bs hf
  refine z_callV (As := []) (rest := []) (r := (some (.int r2.1))) (h' := r2.2) X hI eu1 (s_Mod_here er2) rfl rfl wm_Mod_183 yi_Mod_here rfl hl.1 rfl (Nat.le_of_ble_eq_true rfl) (by decide) (by decide) d_Mod_label_1 (fun H locs hI => ?_)
  refine W.eq (g2 := F0 m 4 ls [.int (r2.1)]) rfl ?_
  obtain ⟨x3, ex3, hf⟩ := z_bs hf
  refine z_topi (Option.some.inj ex3) ?_
  refine lv_istore_n (lv' := [(3, .int x3), (0, .ref v0), (1, .int v1), (2, .int v2)]) hx hb d_Mod_label_4 rfl hl (by decide) rfl (fun ls hl => ?_)
  refine lv_iload_n hx hb d_Mod_label_5 rfl (lv_at hl 3 rfl) ?_
  refine lv_if_ne (tgt := 20) hx hb d_Mod_label_6 (by decide) (fun c4 => ?_) (fun c4 => ?_)
  · rw [if_neg c4] at hf
    refine lv_iload_n hx hb d_Mod_label_20 rfl (lv_at hl 0 rfl) ?_
    refine lv_bipush (v := 97) hx hb d_Mod_label_21 (by decide) ?_
    refine lv_bipush (v := 122) hx hb d_Mod_label_23 (by decide) ?_
    obtain ⟨r5, er5, hf⟩ := z_bs hf
    refine z_callS (As := [.int x3, .int 97, .int 122]) (rest := []) (r := (some (.int r5.1))) (h' := r5.2) X hI (s_Mod_in er5) rfl wm_Mod_154 yi_Mod_in rfl hl.1 rfl (Nat.le_of_ble_eq_true rfl) (by decide) (by decide) d_Mod_label_25 (fun H locs hI => ?_)
    refine W.eq (g2 := F0 m 28 ls [.int (r5.1)]) rfl ?_
    refine lv_if_ne (tgt := 54) hx hb d_Mod_label_28 (by decide) (fun c6 => ?_) (fun c6 => ?_)
    · rw [if_neg c6] at hf
      refine lv_aload_n hx hb d_Mod_label_54 rfl (lv_at hl 1 rfl) ?_
      obtain ⟨x7, ex7, hf⟩ := z_bs hf
      refine z_getF X hI (k := 39) (ci := 12) (gR_s ex7) i_Mod rfl (by decide) wf_Mod_115 d_Mod_label_55 ?_
      refine lv_iload_n hx hb d_Mod_label_58 rfl (lv_at hl 0 rfl) ?_
      refine lv_bipush (v := 97) hx hb d_Mod_label_59 (by decide) ?_
      refine lv_isub hx hb d_Mod_label_61 ?_
      obtain ⟨x8, ex8, hf⟩ := z_bs hf
      refine z_iald X hI ex8 d_Mod_label_62 ?_
      refine lv_if_lt (tgt := 77) hx hb d_Mod_label_63 (by decide) (fun c9 => ?_) (fun c9 => ?_)
      · rw [if_pos c9] at hf
        refine lv_aload_n hx hb d_Mod_label_77 rfl (lv_at hl 1 rfl) ?_
        obtain ⟨x10, ex10, hf⟩ := z_bs hf
        refine z_getF X hI (k := 39) (ci := 12) (gR_s ex10) i_Mod rfl (by decide) wf_Mod_115 d_Mod_label_78 ?_
        refine lv_iload_n hx hb d_Mod_label_81 rfl (lv_at hl 0 rfl) ?_
        refine lv_bipush (v := 97) hx hb d_Mod_label_82 (by decide) ?_
        refine lv_isub hx hb d_Mod_label_84 ?_
        refine lv_iload_n hx hb d_Mod_label_85 rfl (lv_at hl 2 rfl) ?_
        obtain ⟨h11, eh11, hf⟩ := z_bs hf
        refine z_iast X hI eh11 d_Mod_label_86 (fun H locs hI => ?_)
        refine lv_aload_n hx hb d_Mod_label_87 rfl (lv_at hl 1 rfl) ?_
        refine lv_dup hx hb d_Mod_label_88 rfl ?_
        obtain ⟨x12, ex12, hf⟩ := z_bs hf
        refine z_getF X hI (k := 41) (ci := 12) (gI_s ex12) i_Mod rfl (by decide) wf_Mod_176 d_Mod_label_89 ?_
        refine lv_iconst (v := 1) hx hb d_Mod_label_92 (by decide) ?_
        refine lv_iadd hx hb d_Mod_label_93 ?_
        obtain ⟨h13, eh13, hf⟩ := z_bs hf
        refine z_putF X hI (k := 41) (ci := 12) (ty0 := t_Mod) eh13 i_Mod t_Mod_ok n_Mod rfl (by decide) wf_Mod_176 rfl rfl rfl d_Mod_label_94 (fun H locs hI => ?_)
        exact s_Mod_label_97 X  v0 h13 _ _ _ hI (lv_sub hl [1] rfl) hf
      · rw [if_neg c9] at hf
        refine lv_aload_n hx hb d_Mod_label_66 rfl (lv_at hl 1 rfl) ?_
        refine lv_aload_n hx hb d_Mod_label_67 rfl (lv_at hl 1 rfl) ?_
        obtain ⟨x14, ex14, hf⟩ := z_bs hf
        refine z_getF X hI (k := 41) (ci := 12) (gI_s ex14) i_Mod rfl (by decide) wf_Mod_176 d_Mod_label_68 ?_
        obtain ⟨u15, eu15, hf⟩ := z_bs hf
        obtain ⟨r16, er16, hf⟩ := z_bs hf
        refine z_callV (As := [.int x14]) (rest := []) (r := none) (h' := r16) X hI eu15 (s_Mod_wrong er16) rfl rfl wm_Mod_187 yi_Mod_wrong rfl hl.1 rfl (Nat.le_of_ble_eq_true rfl) (by decide) (by decide) d_Mod_label_71 (fun H locs hI => ?_)
        refine W.eq (g2 := F0 m 74 ls []) rfl ?_
        refine lv_goto (tgt := 97) hx hb d_Mod_label_74 (by decide) ?_
        exact s_Mod_label_97 X  v0 r16 _ _ _ hI (lv_sub hl [1] rfl) hf
    · rw [if_pos c6] at hf
      refine lv_aload_n hx hb d_Mod_label_31 rfl (lv_at hl 1 rfl) ?_
      refine lv_iload_n hx hb d_Mod_label_32 rfl (lv_at hl 0 rfl) ?_
      refine lv_iconst (v := (-1)) hx hb d_Mod_label_33 (by decide) ?_
      refine lv_icmp_ne (tgt := 44) hx hb d_Mod_label_34 (by decide) (fun c17 => ?_) (fun c17 => ?_)
      · rw [if_neg c17] at hf
        refine lv_aload_n hx hb d_Mod_label_44 rfl (lv_at hl 1 rfl) ?_
        obtain ⟨x18, ex18, hf⟩ := z_bs hf
        refine z_getF X hI (k := 41) (ci := 12) (gI_s ex18) i_Mod rfl (by decide) wf_Mod_176 d_Mod_label_45 ?_
        exact s_Mod_label_48 X  v0 v0 x18 r5.2 _ _ _ hI (lv_sub hl [1] rfl) hf
      · rw [if_pos c17] at hf
        refine lv_aload_n hx hb d_Mod_label_37 rfl (lv_at hl 1 rfl) ?_
        obtain ⟨x19, ex19, hf⟩ := z_bs hf
        refine z_getF X hI (k := 3) (ci := 12) (gI_s ex19) i_Mod rfl (by decide) wf_Mod_166 d_Mod_label_38 ?_
        refine lv_goto (tgt := 48) hx hb d_Mod_label_41 (by decide) ?_
        exact s_Mod_label_48 X  v0 v0 x19 r5.2 _ _ _ hI (lv_sub hl [1] rfl) hf
  · rw [if_pos c4] at hf
    refine lv_aload_n hx hb d_Mod_label_9 rfl (lv_at hl 1 rfl) ?_
    refine lv_aload_n hx hb d_Mod_label_10 rfl (lv_at hl 1 rfl) ?_
    obtain ⟨x20, ex20, hf⟩ := z_bs hf
    refine z_getF X hI (k := 41) (ci := 12) (gI_s ex20) i_Mod rfl (by decide) wf_Mod_176 d_Mod_label_11 ?_
    refine lv_iconst (v := 1) hx hb d_Mod_label_14 (by decide) ?_
    refine lv_isub hx hb d_Mod_label_15 ?_
    obtain ⟨u21, eu21, hf⟩ := z_bs hf
    obtain ⟨r22, er22, hf⟩ := z_bs hf
    refine z_callV (As := [.int (x20 - 1)]) (rest := []) (r := none) (h' := r22) X hI eu21 (s_Mod_wrong er22) rfl rfl wm_Mod_187 yi_Mod_wrong rfl hl.1 rfl (Nat.le_of_ble_eq_true rfl) (by decide) (by decide) d_Mod_label_16 (fun H locs hI => ?_)
    refine W.eq (g2 := F0 m 19 ls []) rfl ?_
    cases hf
    exact z_vret X hI d_Mod_label_19
def f_Mod_branch_56 (N : Nat)  (v0 : Nat) (h : z_H) : Option z_H :=
  z_b (gO h v0 12) fun u1 =>
  z_b (f_Mod_closed N v0 h) fun r2 =>
  some r2
set_option maxRecDepth 20000 in
set_option maxHeartbeats 2000000 in
theorem s_Mod_branch_56 (X : z_X p s m args meth c prog_14_method_33_code 2 none Ts "StreamForgeModel" D dA B) {N : Nat} {h' : z_H}   : ∀ (v0 : Nat) (h : z_H) (H : Heap) (locs : List Loc) (ls : Array Slot), z_I D dA B h s.heap H locs → lv_has ls 2 [(0, .ref v0)] → f_Mod_branch_56 N  v0 h = some h' → W p l e (z_rm 2 42) s m args below meth c H locs 0 0 (MQ below (z_Q D dA B none h') args s 0 0 (fun q => B ≤ q)) (F0 m 56 ls []) := by
  have hx := z_hx X
  have hb := z_hb X
  intro v0 h H locs ls hI hl hf
  unfold f_Mod_branch_56 at hf
  refine lv_aload_n hx hb d_Mod_branch_56 rfl (lv_at hl 0 rfl) ?_
  obtain ⟨u1, eu1, hf⟩ := z_bs hf
  obtain ⟨r2, er2, hf⟩ := z_bs hf
  refine z_callV (As := []) (rest := []) (r := none) (h' := r2) X hI eu1 (s_Mod_closed er2) rfl rfl wm_Mod_252 yi_Mod_closed rfl hl.1 rfl (Nat.le_of_ble_eq_true rfl) (by decide) (by decide) d_Mod_branch_57 (fun H locs hI => ?_)
  refine W.eq (g2 := F0 m 60 ls []) rfl ?_
  cases hf
  exact z_vret X hI d_Mod_branch_60
def f_Mod_branch (N : Nat) (v0 : Nat) (v1 : Int32) (h : z_H) : Option z_H :=
  z_b (gR h v0 12 18) fun x1 =>
  z_b (uI h x1 0 v1 (-1)) fun h2 =>
  z_b (gR h2 v0 12 20) fun x3 =>
  z_b (gI h2 v0 12 41) fun x4 =>
  z_b (uI h2 x3 0 v1 (x4 - 1)) fun h5 =>
  z_b (gO h5 v0 12) fun u6 =>
  z_b (f_Mod_here N v0 h5) fun r7 =>
  z_b (f_Mod_in N (r7.1) 97 122 r7.2) fun r8 =>
  if (r8.1) = 0 then
  (f_Mod_branch_56 N v0 r8.2)
  else
  (z_b (gR r8.2 v0 12 18) fun x10 =>
  z_b (gO r8.2 v0 12) fun u11 =>
  z_b (f_Mod_here N v0 r8.2) fun r12 =>
  z_b (uI r12.2 x10 0 v1 ((r12.1) - 97)) fun h13 =>
  z_b (gI h13 v0 12 41) fun x14 =>
  z_b (sF h13 v0 12 41 (.int (x14 + 1))) fun h15 =>
  f_Mod_branch_56 N v0 h15)
set_option maxRecDepth 20000 in
set_option maxHeartbeats 2000000 in
theorem s_Mod_branch {l : Launch} {D : va_G} {dA : Nat → ClassId} {B N : Nat} {v0 : Nat} {v1 : Int32} {h h' : z_H} (hf : f_Mod_branch N v0 v1 h = some h') : z_Met l y_Mod_branch prog_14_method_33_code 2 none 2 42 D dA B [.ref v0, .int v1] h none h' := by
  refine z_of (by decide) (Nat.le_of_ble_eq_true rfl) (fun p e s m below meth c ls X hI hl => ?_)
  have hx := z_hx X
  have hb := z_hb X
  have hl : lv_has ls 2 [(0, .ref v0), (1, .int v1)] := hl
  unfold f_Mod_branch at hf
  obtain ⟨locs, hlo⟩ : ∃ z : List Loc, z = [] := ⟨_, rfl⟩
  rw [← hlo] at hI ⊢
  refine lv_aload_n hx hb d_Mod_branch_0 rfl (lv_at hl 0 rfl) ?_
  obtain ⟨x1, ex1, hf⟩ := z_bs hf
  refine z_getF X hI (k := 18) (ci := 12) (gR_s ex1) i_Mod rfl (by decide) wf_Mod_50 d_Mod_branch_1 ?_
  refine lv_iload_n hx hb d_Mod_branch_4 rfl (lv_at hl 1 rfl) ?_
  refine lv_iconst (v := (-1)) hx hb d_Mod_branch_5 (by decide) ?_
  obtain ⟨h2, eh2, hf⟩ := z_bs hf
  refine z_iast X hI eh2 d_Mod_branch_6 (fun H locs hI => ?_)
  refine lv_aload_n hx hb d_Mod_branch_7 rfl (lv_at hl 0 rfl) ?_
  obtain ⟨x3, ex3, hf⟩ := z_bs hf
  refine z_getF X hI (k := 20) (ci := 12) (gR_s ex3) i_Mod rfl (by decide) wf_Mod_56 d_Mod_branch_8 ?_
  refine lv_iload_n hx hb d_Mod_branch_11 rfl (lv_at hl 1 rfl) ?_
  refine lv_aload_n hx hb d_Mod_branch_12 rfl (lv_at hl 0 rfl) ?_
  obtain ⟨x4, ex4, hf⟩ := z_bs hf
  refine z_getF X hI (k := 41) (ci := 12) (gI_s ex4) i_Mod rfl (by decide) wf_Mod_176 d_Mod_branch_13 ?_
  refine lv_iconst (v := 1) hx hb d_Mod_branch_16 (by decide) ?_
  refine lv_isub hx hb d_Mod_branch_17 ?_
  obtain ⟨h5, eh5, hf⟩ := z_bs hf
  refine z_iast X hI eh5 d_Mod_branch_18 (fun H locs hI => ?_)
  refine lv_aload_n hx hb d_Mod_branch_19 rfl (lv_at hl 0 rfl) ?_
  obtain ⟨u6, eu6, hf⟩ := z_bs hf
  obtain ⟨r7, er7, hf⟩ := z_bs hf
  refine z_callV (As := []) (rest := []) (r := (some (.int r7.1))) (h' := r7.2) X hI eu6 (s_Mod_here er7) rfl rfl wm_Mod_183 yi_Mod_here rfl hl.1 rfl (Nat.le_of_ble_eq_true rfl) (by decide) (by decide) d_Mod_branch_20 (fun H locs hI => ?_)
  refine W.eq (g2 := F0 m 23 ls [.int (r7.1)]) rfl ?_
  refine lv_bipush (v := 97) hx hb d_Mod_branch_23 (by decide) ?_
  refine lv_bipush (v := 122) hx hb d_Mod_branch_25 (by decide) ?_
  obtain ⟨r8, er8, hf⟩ := z_bs hf
  refine z_callS (As := [.int (r7.1), .int 97, .int 122]) (rest := []) (r := (some (.int r8.1))) (h' := r8.2) X hI (s_Mod_in er8) rfl wm_Mod_154 yi_Mod_in rfl hl.1 rfl (Nat.le_of_ble_eq_true rfl) (by decide) (by decide) d_Mod_branch_27 (fun H locs hI => ?_)
  refine W.eq (g2 := F0 m 30 ls [.int (r8.1)]) rfl ?_
  refine lv_if_eq (tgt := 56) hx hb d_Mod_branch_30 (by decide) (fun c9 => ?_) (fun c9 => ?_)
  · rw [if_pos c9] at hf
    exact s_Mod_branch_56 X  v0 r8.2 _ _ _ hI (lv_sub hl [0] rfl) hf
  · rw [if_neg c9] at hf
    refine lv_aload_n hx hb d_Mod_branch_33 rfl (lv_at hl 0 rfl) ?_
    obtain ⟨x10, ex10, hf⟩ := z_bs hf
    refine z_getF X hI (k := 18) (ci := 12) (gR_s ex10) i_Mod rfl (by decide) wf_Mod_50 d_Mod_branch_34 ?_
    refine lv_iload_n hx hb d_Mod_branch_37 rfl (lv_at hl 1 rfl) ?_
    refine lv_aload_n hx hb d_Mod_branch_38 rfl (lv_at hl 0 rfl) ?_
    obtain ⟨u11, eu11, hf⟩ := z_bs hf
    obtain ⟨r12, er12, hf⟩ := z_bs hf
    refine z_callV (As := []) (rest := [.int v1, .ref x10]) (r := (some (.int r12.1))) (h' := r12.2) X hI eu11 (s_Mod_here er12) rfl rfl wm_Mod_183 yi_Mod_here rfl hl.1 rfl (Nat.le_of_ble_eq_true rfl) (by decide) (by decide) d_Mod_branch_39 (fun H locs hI => ?_)
    refine W.eq (g2 := F0 m 42 ls [.int (r12.1), .int v1, .ref x10]) rfl ?_
    refine lv_bipush (v := 97) hx hb d_Mod_branch_42 (by decide) ?_
    refine lv_isub hx hb d_Mod_branch_44 ?_
    obtain ⟨h13, eh13, hf⟩ := z_bs hf
    refine z_iast X hI eh13 d_Mod_branch_45 (fun H locs hI => ?_)
    refine lv_aload_n hx hb d_Mod_branch_46 rfl (lv_at hl 0 rfl) ?_
    refine lv_dup hx hb d_Mod_branch_47 rfl ?_
    obtain ⟨x14, ex14, hf⟩ := z_bs hf
    refine z_getF X hI (k := 41) (ci := 12) (gI_s ex14) i_Mod rfl (by decide) wf_Mod_176 d_Mod_branch_48 ?_
    refine lv_iconst (v := 1) hx hb d_Mod_branch_51 (by decide) ?_
    refine lv_iadd hx hb d_Mod_branch_52 ?_
    obtain ⟨h15, eh15, hf⟩ := z_bs hf
    refine z_putF X hI (k := 41) (ci := 12) (ty0 := t_Mod) eh15 i_Mod t_Mod_ok n_Mod rfl (by decide) wf_Mod_176 rfl rfl rfl d_Mod_branch_53 (fun H locs hI => ?_)
    exact s_Mod_branch_56 X  v0 h15 _ _ _ hI (lv_sub hl [0] rfl) hf
def f_Mod_command_340 (N : Nat)  (s0 : Nat) (s1 : Int32) (s2 : Int32) (h : z_H) : Option z_H :=
  z_b (gO h s0 12) fun u1 =>
  z_b (f_Mod_label N s0 s1 s2 h) fun r2 =>
  some r2
set_option maxRecDepth 20000 in
set_option maxHeartbeats 2000000 in
theorem s_Mod_command_340 (X : z_X p s m args meth c prog_14_method_34_code 3 none Ts "StreamForgeModel" D dA B) {N : Nat} {h' : z_H}   : ∀ (s0 : Nat) (s1 : Int32) (s2 : Int32) (h : z_H) (H : Heap) (locs : List Loc) (ls : Array Slot), z_I D dA B h s.heap H locs → lv_has ls 3 [] → f_Mod_command_340 N  s0 s1 s2 h = some h' → W p l e (z_rm 5 118) s m args below meth c H locs 0 0 (MQ below (z_Q D dA B none h') args s 0 0 (fun q => B ≤ q)) (F0 m 340 ls [.int s2, .int s1, .ref s0]) := by
  have hx := z_hx X
  have hb := z_hb X
  intro s0 s1 s2 h H locs ls hI hl hf
  unfold f_Mod_command_340 at hf
  obtain ⟨u1, eu1, hf⟩ := z_bs hf
  obtain ⟨r2, er2, hf⟩ := z_bs hf
  refine z_callV (As := [.int s1, .int s2]) (rest := []) (r := none) (h' := r2) X hI eu1 (s_Mod_label er2) rfl rfl wm_Mod_264 yi_Mod_label rfl hl.1 rfl (Nat.le_of_ble_eq_true rfl) (by decide) (by decide) d_Mod_command_340 (fun H locs hI => ?_)
  refine W.eq (g2 := F0 m 343 ls []) rfl ?_
  refine lv_goto (tgt := 452) hx hb d_Mod_command_343 (by decide) ?_
  cases hf
  exact z_vret X hI d_Mod_command_452
def f_Mod_command_358 (N : Nat)  (v0 : Nat) (v1 : Int32) (h : z_H) : Option z_H :=
  z_b (gO h v0 12) fun u1 =>
  z_b (f_Mod_branch N v0 v1 h) fun r2 =>
  some r2
set_option maxRecDepth 20000 in
set_option maxHeartbeats 2000000 in
theorem s_Mod_command_358 (X : z_X p s m args meth c prog_14_method_34_code 3 none Ts "StreamForgeModel" D dA B) {N : Nat} {h' : z_H}   : ∀ (v0 : Nat) (v1 : Int32) (h : z_H) (H : Heap) (locs : List Loc) (ls : Array Slot), z_I D dA B h s.heap H locs → lv_has ls 3 [(0, .ref v0), (1, .int v1)] → f_Mod_command_358 N  v0 v1 h = some h' → W p l e (z_rm 5 118) s m args below meth c H locs 0 0 (MQ below (z_Q D dA B none h') args s 0 0 (fun q => B ≤ q)) (F0 m 358 ls []) := by
  have hx := z_hx X
  have hb := z_hb X
  intro v0 v1 h H locs ls hI hl hf
  unfold f_Mod_command_358 at hf
  refine lv_aload_n hx hb d_Mod_command_358 rfl (lv_at hl 0 rfl) ?_
  refine lv_iload_n hx hb d_Mod_command_359 rfl (lv_at hl 1 rfl) ?_
  obtain ⟨u1, eu1, hf⟩ := z_bs hf
  obtain ⟨r2, er2, hf⟩ := z_bs hf
  refine z_callV (As := [.int v1]) (rest := []) (r := none) (h' := r2) X hI eu1 (s_Mod_branch er2) rfl rfl wm_Mod_268 yi_Mod_branch rfl hl.1 rfl (Nat.le_of_ble_eq_true rfl) (by decide) (by decide) d_Mod_command_360 (fun H locs hI => ?_)
  refine W.eq (g2 := F0 m 363 ls []) rfl ?_
  refine lv_goto (tgt := 452) hx hb d_Mod_command_363 (by decide) ?_
  cases hf
  exact z_vret X hI d_Mod_command_452
def f_Mod_command_420 (N : Nat)  (v0 : Nat) (v1 : Int32) (h : z_H) : Option z_H :=
  z_b (gO h v0 12) fun u1 =>
  z_b (f_Mod_readText N v0 v1 h) fun r2 =>
  some r2
set_option maxRecDepth 20000 in
set_option maxHeartbeats 2000000 in
theorem s_Mod_command_420 (X : z_X p s m args meth c prog_14_method_34_code 3 none Ts "StreamForgeModel" D dA B) {N : Nat} {h' : z_H}   : ∀ (v0 : Nat) (v1 : Int32) (h : z_H) (H : Heap) (locs : List Loc) (ls : Array Slot), z_I D dA B h s.heap H locs → lv_has ls 3 [(0, .ref v0), (1, .int v1)] → f_Mod_command_420 N  v0 v1 h = some h' → W p l e (z_rm 5 118) s m args below meth c H locs 0 0 (MQ below (z_Q D dA B none h') args s 0 0 (fun q => B ≤ q)) (F0 m 420 ls []) := by
  have hx := z_hx X
  have hb := z_hb X
  intro v0 v1 h H locs ls hI hl hf
  unfold f_Mod_command_420 at hf
  refine lv_aload_n hx hb d_Mod_command_420 rfl (lv_at hl 0 rfl) ?_
  refine lv_iload_n hx hb d_Mod_command_421 rfl (lv_at hl 1 rfl) ?_
  obtain ⟨u1, eu1, hf⟩ := z_bs hf
  obtain ⟨r2, er2, hf⟩ := z_bs hf
  refine z_callV (As := [.int v1]) (rest := []) (r := none) (h' := r2) X hI eu1 (s_Mod_readText er2) rfl rfl wm_Mod_277 yi_Mod_readText rfl hl.1 rfl (Nat.le_of_ble_eq_true rfl) (by decide) (by decide) d_Mod_command_422 (fun H locs hI => ?_)
  refine W.eq (g2 := F0 m 425 ls []) rfl ?_
  refine lv_goto (tgt := 452) hx hb d_Mod_command_425 (by decide) ?_
  cases hf
  exact z_vret X hI d_Mod_command_452
def f_Mod_command_219 (N : Nat)  (v0 : Nat) (v1 : Int32) (h : z_H) : Option z_H :=
  z_b (gO h v0 12) fun u1 =>
  z_b (f_Mod_blanks N v0 h) fun r2 =>
  z_b (gO r2 v0 12) fun u3 =>
  z_b (f_Mod_here N v0 r2) fun r4 =>
  z_b (some (r4.1)) fun x5 =>
  z_b (gR r4.2 v0 12 9) fun x6 =>
  z_b (uI r4.2 x6 0 v1 x5) fun h7 =>
  if x5 = (-1) then
  (z_b (gI h7 v0 12 3) fun x51 =>
  z_b (gO h7 v0 12) fun u52 =>
  z_b (f_Mod_wrong N v0 x51 h7) fun r53 =>
  some r53)
  else
  (z_b (gI h7 v0 12 41) fun x9 =>
  z_b (sF h7 v0 12 41 (.int (x9 + 1))) fun h10 =>
  if x5 = 123 then
  (z_b (gI h10 v0 12 43) fun x41 =>
  if x41 = 4 then
  (z_b (gI h10 v0 12 41) fun x48 =>
  z_b (gO h10 v0 12) fun u49 =>
  z_b (f_Mod_wrong N v0 (x48 - 1) h10) fun r50 =>
  some r50)
  else
  (z_b (gR h10 v0 12 40) fun x43 =>
  z_b (gI h10 v0 12 43) fun x44 =>
  z_b (uI h10 x43 0 x44 v1) fun h45 =>
  z_b (gI h45 v0 12 43) fun x46 =>
  z_b (sF h45 v0 12 43 (.int (x46 + 1))) fun h47 =>
  some h47))
  else
  (if x5 = 58 then
  (z_b (gR h10 v0 12 10) fun x35 =>
  z_b (aI h10 x35 0 v1) fun x36 =>
  if x36 = 0 then
  (z_b (gR h10 v0 12 21) fun x38 =>
  z_b (aI h10 x38 3 v1) fun x39 =>
  if x39 = 0 then
  (f_Mod_command_340 N v0 v1 1 h10)
  else
  (f_Mod_command_340 N v0 v1 0 h10))
  else
  (f_Mod_command_340 N v0 v1 0 h10))
  else
  (if x5 = 98 then
  (f_Mod_command_358 N v0 v1 h10)
  else
  (if x5 = 116 then
  (f_Mod_command_358 N v0 v1 h10)
  else
  (if x5 = 115 then
  (z_b (gO h10 v0 12) fun u31 =>
  z_b (f_Mod_substitute N v0 v1 h10) fun r32 =>
  z_b (gO r32 v0 12) fun u33 =>
  z_b (f_Mod_closed N v0 r32) fun r34 =>
  some r34)
  else
  (if x5 = 121 then
  (z_b (gO h10 v0 12) fun u27 =>
  z_b (f_Mod_exchange N v0 v1 h10) fun r28 =>
  z_b (gO r28 v0 12) fun u29 =>
  z_b (f_Mod_closed N v0 r28) fun r30 =>
  some r30)
  else
  (if x5 = 97 then
  (f_Mod_command_420 N v0 v1 h10)
  else
  (if x5 = 105 then
  (f_Mod_command_420 N v0 v1 h10)
  else
  (if x5 = 99 then
  (f_Mod_command_420 N v0 v1 h10)
  else
  (z_b (f_Mod_isPlain N x5 h10) fun r20 =>
  if (r20.1) = 0 then
  (z_b (gI r20.2 v0 12 41) fun x22 =>
  z_b (gO r20.2 v0 12) fun u23 =>
  z_b (f_Mod_wrong N v0 (x22 - 1) r20.2) fun r24 =>
  some r24)
  else
  (z_b (gO r20.2 v0 12) fun u25 =>
  z_b (f_Mod_closed N v0 r20.2) fun r26 =>
  some r26)))))))))))
set_option maxRecDepth 20000 in
set_option maxHeartbeats 2000000 in
theorem s_Mod_command_219 (X : z_X p s m args meth c prog_14_method_34_code 3 none Ts "StreamForgeModel" D dA B) {N : Nat} {h' : z_H}   : ∀ (v0 : Nat) (v1 : Int32) (h : z_H) (H : Heap) (locs : List Loc) (ls : Array Slot), z_I D dA B h s.heap H locs → lv_has ls 3 [(0, .ref v0), (1, .int v1)] → f_Mod_command_219 N  v0 v1 h = some h' → W p l e (z_rm 5 118) s m args below meth c H locs 0 0 (MQ below (z_Q D dA B none h') args s 0 0 (fun q => B ≤ q)) (F0 m 219 ls []) := by
  have hx := z_hx X
  have hb := z_hb X
  intro v0 v1 h H locs ls hI hl hf
  unfold f_Mod_command_219 at hf
  refine lv_aload_n hx hb d_Mod_command_219 rfl (lv_at hl 0 rfl) ?_
  obtain ⟨u1, eu1, hf⟩ := z_bs hf
  obtain ⟨r2, er2, hf⟩ := z_bs hf
  refine z_callV (As := []) (rest := []) (r := none) (h' := r2) X hI eu1 (s_Mod_blanks er2) rfl rfl wm_Mod_258 yi_Mod_blanks rfl hl.1 rfl (Nat.le_of_ble_eq_true rfl) (by decide) (by decide) d_Mod_command_220 (fun H locs hI => ?_)
  refine W.eq (g2 := F0 m 223 ls []) rfl ?_
  refine lv_aload_n hx hb d_Mod_command_223 rfl (lv_at hl 0 rfl) ?_
  obtain ⟨u3, eu3, hf⟩ := z_bs hf
  obtain ⟨r4, er4, hf⟩ := z_bs hf
  refine z_callV (As := []) (rest := []) (r := (some (.int r4.1))) (h' := r4.2) X hI eu3 (s_Mod_here er4) rfl rfl wm_Mod_183 yi_Mod_here rfl hl.1 rfl (Nat.le_of_ble_eq_true rfl) (by decide) (by decide) d_Mod_command_224 (fun H locs hI => ?_)
  refine W.eq (g2 := F0 m 227 ls [.int (r4.1)]) rfl ?_
  obtain ⟨x5, ex5, hf⟩ := z_bs hf
  refine z_topi (Option.some.inj ex5) ?_
  refine lv_istore_n (lv' := [(2, .int x5), (0, .ref v0), (1, .int v1)]) hx hb d_Mod_command_227 rfl hl (by decide) rfl (fun ls hl => ?_)
  refine lv_aload_n hx hb d_Mod_command_228 rfl (lv_at hl 1 rfl) ?_
  obtain ⟨x6, ex6, hf⟩ := z_bs hf
  refine z_getF X hI (k := 9) (ci := 12) (gR_s ex6) i_Mod rfl (by decide) wf_Mod_23 d_Mod_command_229 ?_
  refine lv_iload_n hx hb d_Mod_command_232 rfl (lv_at hl 2 rfl) ?_
  refine lv_iload_n hx hb d_Mod_command_233 rfl (lv_at hl 0 rfl) ?_
  obtain ⟨h7, eh7, hf⟩ := z_bs hf
  refine z_iast X hI eh7 d_Mod_command_234 (fun H locs hI => ?_)
  refine lv_iload_n hx hb d_Mod_command_235 rfl (lv_at hl 0 rfl) ?_
  refine lv_iconst (v := (-1)) hx hb d_Mod_command_236 (by decide) ?_
  refine lv_icmp_ne (tgt := 249) hx hb d_Mod_command_237 (by decide) (fun c8 => ?_) (fun c8 => ?_)
  · rw [if_neg c8] at hf
    refine lv_aload_n hx hb d_Mod_command_249 rfl (lv_at hl 1 rfl) ?_
    refine lv_dup hx hb d_Mod_command_250 rfl ?_
    obtain ⟨x9, ex9, hf⟩ := z_bs hf
    refine z_getF X hI (k := 41) (ci := 12) (gI_s ex9) i_Mod rfl (by decide) wf_Mod_176 d_Mod_command_251 ?_
    refine lv_iconst (v := 1) hx hb d_Mod_command_254 (by decide) ?_
    refine lv_iadd hx hb d_Mod_command_255 ?_
    obtain ⟨h10, eh10, hf⟩ := z_bs hf
    refine z_putF X hI (k := 41) (ci := 12) (ty0 := t_Mod) eh10 i_Mod t_Mod_ok n_Mod rfl (by decide) wf_Mod_176 rfl rfl rfl d_Mod_command_256 (fun H locs hI => ?_)
    refine lv_iload_n hx hb d_Mod_command_259 rfl (lv_at hl 0 rfl) ?_
    refine lv_bipush (v := 123) hx hb d_Mod_command_260 (by decide) ?_
    refine lv_icmp_ne (tgt := 309) hx hb d_Mod_command_262 (by decide) (fun c11 => ?_) (fun c11 => ?_)
    · rw [if_neg c11] at hf
      refine lv_iload_n hx hb d_Mod_command_309 rfl (lv_at hl 0 rfl) ?_
      refine lv_bipush (v := 58) hx hb d_Mod_command_310 (by decide) ?_
      refine lv_icmp_ne (tgt := 346) hx hb d_Mod_command_312 (by decide) (fun c12 => ?_) (fun c12 => ?_)
      · rw [if_neg c12] at hf
        refine lv_iload_n hx hb d_Mod_command_346 rfl (lv_at hl 0 rfl) ?_
        refine lv_bipush (v := 98) hx hb d_Mod_command_347 (by decide) ?_
        refine lv_icmp_eq (tgt := 358) hx hb d_Mod_command_349 (by decide) (fun c13 => ?_) (fun c13 => ?_)
        · rw [if_pos c13] at hf
          exact s_Mod_command_358 X  v0 v1 h10 _ _ _ hI (lv_sub hl [1, 2] rfl) hf
        · rw [if_neg c13] at hf
          refine lv_iload_n hx hb d_Mod_command_352 rfl (lv_at hl 0 rfl) ?_
          refine lv_bipush (v := 116) hx hb d_Mod_command_353 (by decide) ?_
          refine lv_icmp_ne (tgt := 366) hx hb d_Mod_command_355 (by decide) (fun c14 => ?_) (fun c14 => ?_)
          · rw [if_neg c14] at hf
            refine lv_iload_n hx hb d_Mod_command_366 rfl (lv_at hl 0 rfl) ?_
            refine lv_bipush (v := 115) hx hb d_Mod_command_367 (by decide) ?_
            refine lv_icmp_ne (tgt := 384) hx hb d_Mod_command_369 (by decide) (fun c15 => ?_) (fun c15 => ?_)
            · rw [if_neg c15] at hf
              refine lv_iload_n hx hb d_Mod_command_384 rfl (lv_at hl 0 rfl) ?_
              refine lv_bipush (v := 121) hx hb d_Mod_command_385 (by decide) ?_
              refine lv_icmp_ne (tgt := 402) hx hb d_Mod_command_387 (by decide) (fun c16 => ?_) (fun c16 => ?_)
              · rw [if_neg c16] at hf
                refine lv_iload_n hx hb d_Mod_command_402 rfl (lv_at hl 0 rfl) ?_
                refine lv_bipush (v := 97) hx hb d_Mod_command_403 (by decide) ?_
                refine lv_icmp_eq (tgt := 420) hx hb d_Mod_command_405 (by decide) (fun c17 => ?_) (fun c17 => ?_)
                · rw [if_pos c17] at hf
                  exact s_Mod_command_420 X  v0 v1 h10 _ _ _ hI (lv_sub hl [1, 2] rfl) hf
                · rw [if_neg c17] at hf
                  refine lv_iload_n hx hb d_Mod_command_408 rfl (lv_at hl 0 rfl) ?_
                  refine lv_bipush (v := 105) hx hb d_Mod_command_409 (by decide) ?_
                  refine lv_icmp_eq (tgt := 420) hx hb d_Mod_command_411 (by decide) (fun c18 => ?_) (fun c18 => ?_)
                  · rw [if_pos c18] at hf
                    exact s_Mod_command_420 X  v0 v1 h10 _ _ _ hI (lv_sub hl [1, 2] rfl) hf
                  · rw [if_neg c18] at hf
                    refine lv_iload_n hx hb d_Mod_command_414 rfl (lv_at hl 0 rfl) ?_
                    refine lv_bipush (v := 99) hx hb d_Mod_command_415 (by decide) ?_
                    refine lv_icmp_ne (tgt := 428) hx hb d_Mod_command_417 (by decide) (fun c19 => ?_) (fun c19 => ?_)
                    · rw [if_neg c19] at hf
                      refine lv_iload_n hx hb d_Mod_command_428 rfl (lv_at hl 0 rfl) ?_
                      obtain ⟨r20, er20, hf⟩ := z_bs hf
                      refine z_callS (As := [.int x5]) (rest := []) (r := (some (.int r20.1))) (h' := r20.2) X hI (s_Mod_isPlain er20) rfl wm_Mod_280 yi_Mod_isPlain rfl hl.1 rfl (Nat.le_of_ble_eq_true rfl) (by decide) (by decide) d_Mod_command_429 (fun H locs hI => ?_)
                      refine W.eq (g2 := F0 m 432 ls [.int (r20.1)]) rfl ?_
                      refine lv_if_eq (tgt := 442) hx hb d_Mod_command_432 (by decide) (fun c21 => ?_) (fun c21 => ?_)
                      · rw [if_pos c21] at hf
                        refine lv_aload_n hx hb d_Mod_command_442 rfl (lv_at hl 1 rfl) ?_
                        refine lv_aload_n hx hb d_Mod_command_443 rfl (lv_at hl 1 rfl) ?_
                        obtain ⟨x22, ex22, hf⟩ := z_bs hf
                        refine z_getF X hI (k := 41) (ci := 12) (gI_s ex22) i_Mod rfl (by decide) wf_Mod_176 d_Mod_command_444 ?_
                        refine lv_iconst (v := 1) hx hb d_Mod_command_447 (by decide) ?_
                        refine lv_isub hx hb d_Mod_command_448 ?_
                        obtain ⟨u23, eu23, hf⟩ := z_bs hf
                        obtain ⟨r24, er24, hf⟩ := z_bs hf
                        refine z_callV (As := [.int (x22 - 1)]) (rest := []) (r := none) (h' := r24) X hI eu23 (s_Mod_wrong er24) rfl rfl wm_Mod_187 yi_Mod_wrong rfl hl.1 rfl (Nat.le_of_ble_eq_true rfl) (by decide) (by decide) d_Mod_command_449 (fun H locs hI => ?_)
                        refine W.eq (g2 := F0 m 452 ls []) rfl ?_
                        cases hf
                        exact z_vret X hI d_Mod_command_452
                      · rw [if_neg c21] at hf
                        refine lv_aload_n hx hb d_Mod_command_435 rfl (lv_at hl 1 rfl) ?_
                        obtain ⟨u25, eu25, hf⟩ := z_bs hf
                        obtain ⟨r26, er26, hf⟩ := z_bs hf
                        refine z_callV (As := []) (rest := []) (r := none) (h' := r26) X hI eu25 (s_Mod_closed er26) rfl rfl wm_Mod_252 yi_Mod_closed rfl hl.1 rfl (Nat.le_of_ble_eq_true rfl) (by decide) (by decide) d_Mod_command_436 (fun H locs hI => ?_)
                        refine W.eq (g2 := F0 m 439 ls []) rfl ?_
                        refine lv_goto (tgt := 452) hx hb d_Mod_command_439 (by decide) ?_
                        cases hf
                        exact z_vret X hI d_Mod_command_452
                    · rw [if_pos c19] at hf
                      exact s_Mod_command_420 X  v0 v1 h10 _ _ _ hI (lv_sub hl [1, 2] rfl) hf
              · rw [if_pos c16] at hf
                refine lv_aload_n hx hb d_Mod_command_390 rfl (lv_at hl 1 rfl) ?_
                refine lv_iload_n hx hb d_Mod_command_391 rfl (lv_at hl 2 rfl) ?_
                obtain ⟨u27, eu27, hf⟩ := z_bs hf
                obtain ⟨r28, er28, hf⟩ := z_bs hf
                refine z_callV (As := [.int v1]) (rest := []) (r := none) (h' := r28) X hI eu27 (s_Mod_exchange er28) rfl rfl wm_Mod_274 yi_Mod_exchange rfl hl.1 rfl (Nat.le_of_ble_eq_true rfl) (by decide) (by decide) d_Mod_command_392 (fun H locs hI => ?_)
                refine W.eq (g2 := F0 m 395 ls []) rfl ?_
                refine lv_aload_n hx hb d_Mod_command_395 rfl (lv_at hl 1 rfl) ?_
                obtain ⟨u29, eu29, hf⟩ := z_bs hf
                obtain ⟨r30, er30, hf⟩ := z_bs hf
                refine z_callV (As := []) (rest := []) (r := none) (h' := r30) X hI eu29 (s_Mod_closed er30) rfl rfl wm_Mod_252 yi_Mod_closed rfl hl.1 rfl (Nat.le_of_ble_eq_true rfl) (by decide) (by decide) d_Mod_command_396 (fun H locs hI => ?_)
                refine W.eq (g2 := F0 m 399 ls []) rfl ?_
                refine lv_goto (tgt := 452) hx hb d_Mod_command_399 (by decide) ?_
                cases hf
                exact z_vret X hI d_Mod_command_452
            · rw [if_pos c15] at hf
              refine lv_aload_n hx hb d_Mod_command_372 rfl (lv_at hl 1 rfl) ?_
              refine lv_iload_n hx hb d_Mod_command_373 rfl (lv_at hl 2 rfl) ?_
              obtain ⟨u31, eu31, hf⟩ := z_bs hf
              obtain ⟨r32, er32, hf⟩ := z_bs hf
              refine z_callV (As := [.int v1]) (rest := []) (r := none) (h' := r32) X hI eu31 (s_Mod_substitute er32) rfl rfl wm_Mod_271 yi_Mod_substitute rfl hl.1 rfl (Nat.le_of_ble_eq_true rfl) (by decide) (by decide) d_Mod_command_374 (fun H locs hI => ?_)
              refine W.eq (g2 := F0 m 377 ls []) rfl ?_
              refine lv_aload_n hx hb d_Mod_command_377 rfl (lv_at hl 1 rfl) ?_
              obtain ⟨u33, eu33, hf⟩ := z_bs hf
              obtain ⟨r34, er34, hf⟩ := z_bs hf
              refine z_callV (As := []) (rest := []) (r := none) (h' := r34) X hI eu33 (s_Mod_closed er34) rfl rfl wm_Mod_252 yi_Mod_closed rfl hl.1 rfl (Nat.le_of_ble_eq_true rfl) (by decide) (by decide) d_Mod_command_378 (fun H locs hI => ?_)
              refine W.eq (g2 := F0 m 381 ls []) rfl ?_
              refine lv_goto (tgt := 452) hx hb d_Mod_command_381 (by decide) ?_
              cases hf
              exact z_vret X hI d_Mod_command_452
          · rw [if_pos c14] at hf
            exact s_Mod_command_358 X  v0 v1 h10 _ _ _ hI (lv_sub hl [1, 2] rfl) hf
      · rw [if_pos c12] at hf
        refine lv_aload_n hx hb d_Mod_command_315 rfl (lv_at hl 1 rfl) ?_
        refine lv_iload_n hx hb d_Mod_command_316 rfl (lv_at hl 2 rfl) ?_
        refine lv_aload_n hx hb d_Mod_command_317 rfl (lv_at hl 1 rfl) ?_
        obtain ⟨x35, ex35, hf⟩ := z_bs hf
        refine z_getF X hI (k := 10) (ci := 12) (gR_s ex35) i_Mod rfl (by decide) wf_Mod_26 d_Mod_command_318 ?_
        refine lv_iload_n hx hb d_Mod_command_321 rfl (lv_at hl 2 rfl) ?_
        obtain ⟨x36, ex36, hf⟩ := z_bs hf
        refine z_iald X hI ex36 d_Mod_command_322 ?_
        refine lv_if_ne (tgt := 339) hx hb d_Mod_command_323 (by decide) (fun c37 => ?_) (fun c37 => ?_)
        · rw [if_neg c37] at hf
          refine lv_iconst (v := 0) hx hb d_Mod_command_339 (by decide) ?_
          exact s_Mod_command_340 X  v0 v1 0 h10 _ _ _ hI (lv_sub hl [] rfl) hf
        · rw [if_pos c37] at hf
          refine lv_aload_n hx hb d_Mod_command_326 rfl (lv_at hl 1 rfl) ?_
          obtain ⟨x38, ex38, hf⟩ := z_bs hf
          refine z_getF X hI (k := 21) (ci := 12) (gR_s ex38) i_Mod rfl (by decide) wf_Mod_59 d_Mod_command_327 ?_
          refine lv_iload_n hx hb d_Mod_command_330 rfl (lv_at hl 2 rfl) ?_
          obtain ⟨x39, ex39, hf⟩ := z_bs hf
          refine z_zald X hI ex39 d_Mod_command_331 ?_
          refine lv_if_ne (tgt := 339) hx hb d_Mod_command_332 (by decide) (fun c40 => ?_) (fun c40 => ?_)
          · rw [if_neg c40] at hf
            refine lv_iconst (v := 0) hx hb d_Mod_command_339 (by decide) ?_
            exact s_Mod_command_340 X  v0 v1 0 h10 _ _ _ hI (lv_sub hl [] rfl) hf
          · rw [if_pos c40] at hf
            refine lv_iconst (v := 1) hx hb d_Mod_command_335 (by decide) ?_
            refine lv_goto (tgt := 340) hx hb d_Mod_command_336 (by decide) ?_
            exact s_Mod_command_340 X  v0 v1 1 h10 _ _ _ hI (lv_sub hl [] rfl) hf
    · rw [if_pos c11] at hf
      refine lv_aload_n hx hb d_Mod_command_265 rfl (lv_at hl 1 rfl) ?_
      obtain ⟨x41, ex41, hf⟩ := z_bs hf
      refine z_getF X hI (k := 43) (ci := 12) (gI_s ex41) i_Mod rfl (by decide) wf_Mod_261 d_Mod_command_266 ?_
      refine lv_iconst (v := 4) hx hb d_Mod_command_269 (by decide) ?_
      refine lv_icmp_ne (tgt := 286) hx hb d_Mod_command_270 (by decide) (fun c42 => ?_) (fun c42 => ?_)
      · rw [if_neg c42] at hf
        refine lv_aload_n hx hb d_Mod_command_286 rfl (lv_at hl 1 rfl) ?_
        obtain ⟨x43, ex43, hf⟩ := z_bs hf
        refine z_getF X hI (k := 40) (ci := 12) (gR_s ex43) i_Mod rfl (by decide) wf_Mod_118 d_Mod_command_287 ?_
        refine lv_aload_n hx hb d_Mod_command_290 rfl (lv_at hl 1 rfl) ?_
        obtain ⟨x44, ex44, hf⟩ := z_bs hf
        refine z_getF X hI (k := 43) (ci := 12) (gI_s ex44) i_Mod rfl (by decide) wf_Mod_261 d_Mod_command_291 ?_
        refine lv_iload_n hx hb d_Mod_command_294 rfl (lv_at hl 2 rfl) ?_
        obtain ⟨h45, eh45, hf⟩ := z_bs hf
        refine z_iast X hI eh45 d_Mod_command_295 (fun H locs hI => ?_)
        refine lv_aload_n hx hb d_Mod_command_296 rfl (lv_at hl 1 rfl) ?_
        refine lv_dup hx hb d_Mod_command_297 rfl ?_
        obtain ⟨x46, ex46, hf⟩ := z_bs hf
        refine z_getF X hI (k := 43) (ci := 12) (gI_s ex46) i_Mod rfl (by decide) wf_Mod_261 d_Mod_command_298 ?_
        refine lv_iconst (v := 1) hx hb d_Mod_command_301 (by decide) ?_
        refine lv_iadd hx hb d_Mod_command_302 ?_
        obtain ⟨h47, eh47, hf⟩ := z_bs hf
        refine z_putF X hI (k := 43) (ci := 12) (ty0 := t_Mod) eh47 i_Mod t_Mod_ok n_Mod rfl (by decide) wf_Mod_261 rfl rfl rfl d_Mod_command_303 (fun H locs hI => ?_)
        refine lv_goto (tgt := 452) hx hb d_Mod_command_306 (by decide) ?_
        cases hf
        exact z_vret X hI d_Mod_command_452
      · rw [if_pos c42] at hf
        refine lv_aload_n hx hb d_Mod_command_273 rfl (lv_at hl 1 rfl) ?_
        refine lv_aload_n hx hb d_Mod_command_274 rfl (lv_at hl 1 rfl) ?_
        obtain ⟨x48, ex48, hf⟩ := z_bs hf
        refine z_getF X hI (k := 41) (ci := 12) (gI_s ex48) i_Mod rfl (by decide) wf_Mod_176 d_Mod_command_275 ?_
        refine lv_iconst (v := 1) hx hb d_Mod_command_278 (by decide) ?_
        refine lv_isub hx hb d_Mod_command_279 ?_
        obtain ⟨u49, eu49, hf⟩ := z_bs hf
        obtain ⟨r50, er50, hf⟩ := z_bs hf
        refine z_callV (As := [.int (x48 - 1)]) (rest := []) (r := none) (h' := r50) X hI eu49 (s_Mod_wrong er50) rfl rfl wm_Mod_187 yi_Mod_wrong rfl hl.1 rfl (Nat.le_of_ble_eq_true rfl) (by decide) (by decide) d_Mod_command_280 (fun H locs hI => ?_)
        refine W.eq (g2 := F0 m 283 ls []) rfl ?_
        refine lv_goto (tgt := 452) hx hb d_Mod_command_283 (by decide) ?_
        cases hf
        exact z_vret X hI d_Mod_command_452
  · rw [if_pos c8] at hf
    refine lv_aload_n hx hb d_Mod_command_240 rfl (lv_at hl 1 rfl) ?_
    refine lv_aload_n hx hb d_Mod_command_241 rfl (lv_at hl 1 rfl) ?_
    obtain ⟨x51, ex51, hf⟩ := z_bs hf
    refine z_getF X hI (k := 3) (ci := 12) (gI_s ex51) i_Mod rfl (by decide) wf_Mod_166 d_Mod_command_242 ?_
    obtain ⟨u52, eu52, hf⟩ := z_bs hf
    obtain ⟨r53, er53, hf⟩ := z_bs hf
    refine z_callV (As := [.int x51]) (rest := []) (r := none) (h' := r53) X hI eu52 (s_Mod_wrong er53) rfl rfl wm_Mod_187 yi_Mod_wrong rfl hl.1 rfl (Nat.le_of_ble_eq_true rfl) (by decide) (by decide) d_Mod_command_245 (fun H locs hI => ?_)
    refine W.eq (g2 := F0 m 248 ls []) rfl ?_
    cases hf
    exact z_vret X hI d_Mod_command_248
def f_Mod_command_199 (N : Nat)  (v0 : Nat) (v1 : Int32) (s0 : Nat) (s1 : Int32) (s2 : Int32) (h : z_H) : Option z_H :=
  z_b (uI h s0 3 s1 (vp_nar .boolean s2)) fun h1 =>
  z_b (gR h1 v0 12 21) fun x2 =>
  z_b (aI h1 x2 3 v1) fun x3 =>
  if x3 = 0 then
  (f_Mod_command_219 N v0 v1 h1)
  else
  (z_b (gI h1 v0 12 41) fun x5 =>
  z_b (sF h1 v0 12 41 (.int (x5 + 1))) fun h6 =>
  f_Mod_command_219 N v0 v1 h6)
set_option maxRecDepth 20000 in
set_option maxHeartbeats 2000000 in
theorem s_Mod_command_199 (X : z_X p s m args meth c prog_14_method_34_code 3 none Ts "StreamForgeModel" D dA B) {N : Nat} {h' : z_H}   : ∀ (v0 : Nat) (v1 : Int32) (s0 : Nat) (s1 : Int32) (s2 : Int32) (h : z_H) (H : Heap) (locs : List Loc) (ls : Array Slot), z_I D dA B h s.heap H locs → lv_has ls 3 [(0, .ref v0), (1, .int v1)] → f_Mod_command_199 N  v0 v1 s0 s1 s2 h = some h' → W p l e (z_rm 5 118) s m args below meth c H locs 0 0 (MQ below (z_Q D dA B none h') args s 0 0 (fun q => B ≤ q)) (F0 m 199 ls [.int s2, .int s1, .ref s0]) := by
  have hx := z_hx X
  have hb := z_hb X
  intro v0 v1 s0 s1 s2 h H locs ls hI hl hf
  unfold f_Mod_command_199 at hf
  obtain ⟨h1, eh1, hf⟩ := z_bs hf
  refine z_zast X hI eh1 d_Mod_command_199 (fun H locs hI => ?_)
  refine lv_aload_n hx hb d_Mod_command_200 rfl (lv_at hl 0 rfl) ?_
  obtain ⟨x2, ex2, hf⟩ := z_bs hf
  refine z_getF X hI (k := 21) (ci := 12) (gR_s ex2) i_Mod rfl (by decide) wf_Mod_59 d_Mod_command_201 ?_
  refine lv_iload_n hx hb d_Mod_command_204 rfl (lv_at hl 1 rfl) ?_
  obtain ⟨x3, ex3, hf⟩ := z_bs hf
  refine z_zald X hI ex3 d_Mod_command_205 ?_
  refine lv_if_eq (tgt := 219) hx hb d_Mod_command_206 (by decide) (fun c4 => ?_) (fun c4 => ?_)
  · rw [if_pos c4] at hf
    exact s_Mod_command_219 X  v0 v1 h1 _ _ _ hI (lv_sub hl [0, 1] rfl) hf
  · rw [if_neg c4] at hf
    refine lv_aload_n hx hb d_Mod_command_209 rfl (lv_at hl 0 rfl) ?_
    refine lv_dup hx hb d_Mod_command_210 rfl ?_
    obtain ⟨x5, ex5, hf⟩ := z_bs hf
    refine z_getF X hI (k := 41) (ci := 12) (gI_s ex5) i_Mod rfl (by decide) wf_Mod_176 d_Mod_command_211 ?_
    refine lv_iconst (v := 1) hx hb d_Mod_command_214 (by decide) ?_
    refine lv_iadd hx hb d_Mod_command_215 ?_
    obtain ⟨h6, eh6, hf⟩ := z_bs hf
    refine z_putF X hI (k := 41) (ci := 12) (ty0 := t_Mod) eh6 i_Mod t_Mod_ok n_Mod rfl (by decide) wf_Mod_176 rfl rfl rfl d_Mod_command_216 (fun H locs hI => ?_)
    exact s_Mod_command_219 X  v0 v1 h6 _ _ _ hI (lv_sub hl [0, 1] rfl) hf
def f_Mod_command_168 (N : Nat)  (v0 : Nat) (v1 : Int32) (h : z_H) : Option z_H :=
  z_b (gI h v0 12 48) fun x1 =>
  if x1 = 0 then
  (z_b (gO h v0 12) fun u3 =>
  z_b (f_Mod_blanks N v0 h) fun r4 =>
  z_b (gR r4 v0 12 21) fun x5 =>
  z_b (gO r4 v0 12) fun u6 =>
  z_b (f_Mod_here N v0 r4) fun r7 =>
  if (r7.1) = 33 then
  (f_Mod_command_199 N v0 v1 x5 v1 1 r7.2)
  else
  (f_Mod_command_199 N v0 v1 x5 v1 0 r7.2))
  else
  (some h)
set_option maxRecDepth 20000 in
set_option maxHeartbeats 2000000 in
theorem s_Mod_command_168 (X : z_X p s m args meth c prog_14_method_34_code 3 none Ts "StreamForgeModel" D dA B) {N : Nat} {h' : z_H}   : ∀ (v0 : Nat) (v1 : Int32) (h : z_H) (H : Heap) (locs : List Loc) (ls : Array Slot), z_I D dA B h s.heap H locs → lv_has ls 3 [(0, .ref v0), (1, .int v1)] → f_Mod_command_168 N  v0 v1 h = some h' → W p l e (z_rm 5 118) s m args below meth c H locs 0 0 (MQ below (z_Q D dA B none h') args s 0 0 (fun q => B ≤ q)) (F0 m 168 ls []) := by
  have hx := z_hx X
  have hb := z_hb X
  intro v0 v1 h H locs ls hI hl hf
  unfold f_Mod_command_168 at hf
  refine lv_aload_n hx hb d_Mod_command_168 rfl (lv_at hl 0 rfl) ?_
  obtain ⟨x1, ex1, hf⟩ := z_bs hf
  refine z_getF X hI (k := 48) (ci := 12) (gI_s ex1) i_Mod rfl (by decide) wf_Mod_179 d_Mod_command_169 ?_
  refine lv_if_eq (tgt := 176) hx hb d_Mod_command_172 (by decide) (fun c2 => ?_) (fun c2 => ?_)
  · rw [if_pos c2] at hf
    refine lv_aload_n hx hb d_Mod_command_176 rfl (lv_at hl 0 rfl) ?_
    obtain ⟨u3, eu3, hf⟩ := z_bs hf
    obtain ⟨r4, er4, hf⟩ := z_bs hf
    refine z_callV (As := []) (rest := []) (r := none) (h' := r4) X hI eu3 (s_Mod_blanks er4) rfl rfl wm_Mod_258 yi_Mod_blanks rfl hl.1 rfl (Nat.le_of_ble_eq_true rfl) (by decide) (by decide) d_Mod_command_177 (fun H locs hI => ?_)
    refine W.eq (g2 := F0 m 180 ls []) rfl ?_
    refine lv_aload_n hx hb d_Mod_command_180 rfl (lv_at hl 0 rfl) ?_
    obtain ⟨x5, ex5, hf⟩ := z_bs hf
    refine z_getF X hI (k := 21) (ci := 12) (gR_s ex5) i_Mod rfl (by decide) wf_Mod_59 d_Mod_command_181 ?_
    refine lv_iload_n hx hb d_Mod_command_184 rfl (lv_at hl 1 rfl) ?_
    refine lv_aload_n hx hb d_Mod_command_185 rfl (lv_at hl 0 rfl) ?_
    obtain ⟨u6, eu6, hf⟩ := z_bs hf
    obtain ⟨r7, er7, hf⟩ := z_bs hf
    refine z_callV (As := []) (rest := [.int v1, .ref x5]) (r := (some (.int r7.1))) (h' := r7.2) X hI eu6 (s_Mod_here er7) rfl rfl wm_Mod_183 yi_Mod_here rfl hl.1 rfl (Nat.le_of_ble_eq_true rfl) (by decide) (by decide) d_Mod_command_186 (fun H locs hI => ?_)
    refine W.eq (g2 := F0 m 189 ls [.int (r7.1), .int v1, .ref x5]) rfl ?_
    refine lv_bipush (v := 33) hx hb d_Mod_command_189 (by decide) ?_
    refine lv_icmp_ne (tgt := 198) hx hb d_Mod_command_191 (by decide) (fun c8 => ?_) (fun c8 => ?_)
    · rw [if_neg c8] at hf
      refine lv_iconst (v := 0) hx hb d_Mod_command_198 (by decide) ?_
      exact s_Mod_command_199 X  v0 v1 x5 v1 0 r7.2 _ _ _ hI (lv_sub hl [0, 1] rfl) hf
    · rw [if_pos c8] at hf
      refine lv_iconst (v := 1) hx hb d_Mod_command_194 (by decide) ?_
      refine lv_goto (tgt := 199) hx hb d_Mod_command_195 (by decide) ?_
      exact s_Mod_command_199 X  v0 v1 x5 v1 1 r7.2 _ _ _ hI (lv_sub hl [0, 1] rfl) hf
  · rw [if_neg c2] at hf
    cases hf
    exact z_vret X hI d_Mod_command_175
def f_Mod_command_165 (N : Nat)  (v0 : Nat) (v1 : Int32) (s0 : Nat) (s1 : Int32) (h : z_H) : Option z_H :=
  z_b (gO h s0 12) fun u1 =>
  z_b (f_Mod_wrong N s0 s1 h) fun r2 =>
  f_Mod_command_168 N v0 v1 r2
set_option maxRecDepth 20000 in
set_option maxHeartbeats 2000000 in
theorem s_Mod_command_165 (X : z_X p s m args meth c prog_14_method_34_code 3 none Ts "StreamForgeModel" D dA B) {N : Nat} {h' : z_H}   : ∀ (v0 : Nat) (v1 : Int32) (s0 : Nat) (s1 : Int32) (h : z_H) (H : Heap) (locs : List Loc) (ls : Array Slot), z_I D dA B h s.heap H locs → lv_has ls 3 [(0, .ref v0), (1, .int v1)] → f_Mod_command_165 N  v0 v1 s0 s1 h = some h' → W p l e (z_rm 5 118) s m args below meth c H locs 0 0 (MQ below (z_Q D dA B none h') args s 0 0 (fun q => B ≤ q)) (F0 m 165 ls [.int s1, .ref s0]) := by
  have hx := z_hx X
  have hb := z_hb X
  intro v0 v1 s0 s1 h H locs ls hI hl hf
  unfold f_Mod_command_165 at hf
  obtain ⟨u1, eu1, hf⟩ := z_bs hf
  obtain ⟨r2, er2, hf⟩ := z_bs hf
  refine z_callV (As := [.int s1]) (rest := []) (r := none) (h' := r2) X hI eu1 (s_Mod_wrong er2) rfl rfl wm_Mod_187 yi_Mod_wrong rfl hl.1 rfl (Nat.le_of_ble_eq_true rfl) (by decide) (by decide) d_Mod_command_165 (fun H locs hI => ?_)
  refine W.eq (g2 := F0 m 168 ls []) rfl ?_
  exact s_Mod_command_168 X  v0 v1 r2 _ _ _ hI (lv_sub hl [0, 1] rfl) hf
def f_Mod_command (N : Nat) (v0 : Nat) (h : z_H) : Option z_H :=
  z_b (gI h v0 12 42) fun x1 =>
  z_b (gR h v0 12 24) fun x2 =>
  z_b (gI h v0 12 42) fun x3 =>
  z_b (aI h x2 0 x3) fun x4 =>
  z_b (some ((40 * x1) + x4)) fun x5 =>
  z_b (gR h v0 12 24) fun x6 =>
  z_b (gI h v0 12 42) fun x7 =>
  z_b (aI h x6 0 x7) fun x8 =>
  if x8 = 40 then
  (z_b (gI h v0 12 41) fun x48 =>
  z_b (gO h v0 12) fun u49 =>
  z_b (f_Mod_wrong N v0 x48 h) fun r50 =>
  some r50)
  else
  (z_b (gR h v0 12 24) fun x10 =>
  z_b (gI h v0 12 42) fun x11 =>
  z_b (aI h x10 0 x11) fun x12 =>
  z_b (uI h x10 0 x11 (x12 + 1)) fun h13 =>
  z_b (gR h13 v0 12 10) fun x14 =>
  z_b (gO h13 v0 12) fun u15 =>
  z_b (f_Mod_address N v0 h13) fun r16 =>
  z_b (uI r16.2 x14 0 x5 (r16.1)) fun h17 =>
  z_b (gR h17 v0 12 11) fun x18 =>
  z_b (gI h17 v0 12 47) fun x19 =>
  z_b (uI h17 x18 0 x5 x19) fun h20 =>
  z_b (gR h20 v0 12 12) fun x21 =>
  z_b (uI h20 x21 0 x5 0) fun h22 =>
  z_b (gI h22 v0 12 48) fun x23 =>
  if x23 = 0 then
  (z_b (gR h22 v0 12 10) fun x25 =>
  z_b (aI h22 x25 0 x5) fun x26 =>
  if x26 ≤ 0 then
  (f_Mod_command_168 N v0 x5 h22)
  else
  (z_b (gO h22 v0 12) fun u28 =>
  z_b (f_Mod_here N v0 h22) fun r29 =>
  if (r29.1) = 44 then
  (z_b (gI r29.2 v0 12 41) fun x31 =>
  z_b (sF r29.2 v0 12 41 (.int (x31 + 1))) fun h32 =>
  z_b (gR h32 v0 12 12) fun x33 =>
  z_b (gO h32 v0 12) fun u34 =>
  z_b (f_Mod_address N v0 h32) fun r35 =>
  z_b (uI r35.2 x33 0 x5 (r35.1)) fun h36 =>
  z_b (gR h36 v0 12 13) fun x37 =>
  z_b (gI h36 v0 12 47) fun x38 =>
  z_b (uI h36 x37 0 x5 x38) fun h39 =>
  z_b (gR h39 v0 12 12) fun x40 =>
  z_b (aI h39 x40 0 x5) fun x41 =>
  if x41 = 0 then
  (z_b (gO h39 v0 12) fun u43 =>
  z_b (f_Mod_here N v0 h39) fun r44 =>
  if (r44.1) = (-1) then
  (z_b (gI r44.2 v0 12 3) fun x47 =>
  f_Mod_command_165 N v0 x5 v0 x47 r44.2)
  else
  (z_b (gI r44.2 v0 12 41) fun x46 =>
  f_Mod_command_165 N v0 x5 v0 x46 r44.2))
  else
  (f_Mod_command_168 N v0 x5 h39))
  else
  (f_Mod_command_168 N v0 x5 r29.2)))
  else
  (f_Mod_command_168 N v0 x5 h22))
set_option maxRecDepth 20000 in
set_option maxHeartbeats 2000000 in
theorem s_Mod_command {l : Launch} {D : va_G} {dA : Nat → ClassId} {B N : Nat} {v0 : Nat} {h h' : z_H} (hf : f_Mod_command N v0 h = some h') : z_Met l y_Mod_command prog_14_method_34_code 3 none 5 118 D dA B [.ref v0] h none h' := by
  refine z_of (by decide) (Nat.le_of_ble_eq_true rfl) (fun p e s m below meth c ls X hI hl => ?_)
  have hx := z_hx X
  have hb := z_hb X
  have hl : lv_has ls 3 [(0, .ref v0)] := hl
  unfold f_Mod_command at hf
  obtain ⟨locs, hlo⟩ : ∃ z : List Loc, z = [] := ⟨_, rfl⟩
  rw [← hlo] at hI ⊢
  refine lv_bipush (v := 40) hx hb d_Mod_command_0 (by decide) ?_
  refine lv_aload_n hx hb d_Mod_command_2 rfl (lv_at hl 0 rfl) ?_
  obtain ⟨x1, ex1, hf⟩ := z_bs hf
  refine z_getF X hI (k := 42) (ci := 12) (gI_s ex1) i_Mod rfl (by decide) wf_Mod_191 d_Mod_command_3 ?_
  refine lv_imul hx hb d_Mod_command_6 ?_
  refine lv_aload_n hx hb d_Mod_command_7 rfl (lv_at hl 0 rfl) ?_
  obtain ⟨x2, ex2, hf⟩ := z_bs hf
  refine z_getF X hI (k := 24) (ci := 12) (gR_s ex2) i_Mod rfl (by decide) wf_Mod_69 d_Mod_command_8 ?_
  refine lv_aload_n hx hb d_Mod_command_11 rfl (lv_at hl 0 rfl) ?_
  obtain ⟨x3, ex3, hf⟩ := z_bs hf
  refine z_getF X hI (k := 42) (ci := 12) (gI_s ex3) i_Mod rfl (by decide) wf_Mod_191 d_Mod_command_12 ?_
  obtain ⟨x4, ex4, hf⟩ := z_bs hf
  refine z_iald X hI ex4 d_Mod_command_15 ?_
  refine lv_iadd hx hb d_Mod_command_16 ?_
  obtain ⟨x5, ex5, hf⟩ := z_bs hf
  refine z_topi (Option.some.inj ex5) ?_
  refine lv_istore_n (lv' := [(1, .int x5), (0, .ref v0)]) hx hb d_Mod_command_17 rfl hl (by decide) rfl (fun ls hl => ?_)
  refine lv_aload_n hx hb d_Mod_command_18 rfl (lv_at hl 1 rfl) ?_
  obtain ⟨x6, ex6, hf⟩ := z_bs hf
  refine z_getF X hI (k := 24) (ci := 12) (gR_s ex6) i_Mod rfl (by decide) wf_Mod_69 d_Mod_command_19 ?_
  refine lv_aload_n hx hb d_Mod_command_22 rfl (lv_at hl 1 rfl) ?_
  obtain ⟨x7, ex7, hf⟩ := z_bs hf
  refine z_getF X hI (k := 42) (ci := 12) (gI_s ex7) i_Mod rfl (by decide) wf_Mod_191 d_Mod_command_23 ?_
  obtain ⟨x8, ex8, hf⟩ := z_bs hf
  refine z_iald X hI ex8 d_Mod_command_26 ?_
  refine lv_bipush (v := 40) hx hb d_Mod_command_27 (by decide) ?_
  refine lv_icmp_ne (tgt := 41) hx hb d_Mod_command_29 (by decide) (fun c9 => ?_) (fun c9 => ?_)
  · rw [if_neg c9] at hf
    refine lv_aload_n hx hb d_Mod_command_41 rfl (lv_at hl 1 rfl) ?_
    obtain ⟨x10, ex10, hf⟩ := z_bs hf
    refine z_getF X hI (k := 24) (ci := 12) (gR_s ex10) i_Mod rfl (by decide) wf_Mod_69 d_Mod_command_42 ?_
    refine lv_aload_n hx hb d_Mod_command_45 rfl (lv_at hl 1 rfl) ?_
    obtain ⟨x11, ex11, hf⟩ := z_bs hf
    refine z_getF X hI (k := 42) (ci := 12) (gI_s ex11) i_Mod rfl (by decide) wf_Mod_191 d_Mod_command_46 ?_
    refine lv_dup2_11 hx hb d_Mod_command_49 rfl rfl ?_
    obtain ⟨x12, ex12, hf⟩ := z_bs hf
    refine z_iald X hI ex12 d_Mod_command_50 ?_
    refine lv_iconst (v := 1) hx hb d_Mod_command_51 (by decide) ?_
    refine lv_iadd hx hb d_Mod_command_52 ?_
    obtain ⟨h13, eh13, hf⟩ := z_bs hf
    refine z_iast X hI eh13 d_Mod_command_53 (fun H locs hI => ?_)
    refine lv_aload_n hx hb d_Mod_command_54 rfl (lv_at hl 1 rfl) ?_
    obtain ⟨x14, ex14, hf⟩ := z_bs hf
    refine z_getF X hI (k := 10) (ci := 12) (gR_s ex14) i_Mod rfl (by decide) wf_Mod_26 d_Mod_command_55 ?_
    refine lv_iload_n hx hb d_Mod_command_58 rfl (lv_at hl 0 rfl) ?_
    refine lv_aload_n hx hb d_Mod_command_59 rfl (lv_at hl 1 rfl) ?_
    obtain ⟨u15, eu15, hf⟩ := z_bs hf
    obtain ⟨r16, er16, hf⟩ := z_bs hf
    refine z_callV (As := []) (rest := [.int x5, .ref x14]) (r := (some (.int r16.1))) (h' := r16.2) X hI eu15 (s_Mod_address er16) rfl rfl wm_Mod_255 yi_Mod_address rfl hl.1 rfl (Nat.le_of_ble_eq_true rfl) (by decide) (by decide) d_Mod_command_60 (fun H locs hI => ?_)
    refine W.eq (g2 := F0 m 63 ls [.int (r16.1), .int x5, .ref x14]) rfl ?_
    obtain ⟨h17, eh17, hf⟩ := z_bs hf
    refine z_iast X hI eh17 d_Mod_command_63 (fun H locs hI => ?_)
    refine lv_aload_n hx hb d_Mod_command_64 rfl (lv_at hl 1 rfl) ?_
    obtain ⟨x18, ex18, hf⟩ := z_bs hf
    refine z_getF X hI (k := 11) (ci := 12) (gR_s ex18) i_Mod rfl (by decide) wf_Mod_29 d_Mod_command_65 ?_
    refine lv_iload_n hx hb d_Mod_command_68 rfl (lv_at hl 0 rfl) ?_
    refine lv_aload_n hx hb d_Mod_command_69 rfl (lv_at hl 1 rfl) ?_
    obtain ⟨x19, ex19, hf⟩ := z_bs hf
    refine z_getF X hI (k := 47) (ci := 12) (gI_s ex19) i_Mod rfl (by decide) wf_Mod_234 d_Mod_command_70 ?_
    obtain ⟨h20, eh20, hf⟩ := z_bs hf
    refine z_iast X hI eh20 d_Mod_command_73 (fun H locs hI => ?_)
    refine lv_aload_n hx hb d_Mod_command_74 rfl (lv_at hl 1 rfl) ?_
    obtain ⟨x21, ex21, hf⟩ := z_bs hf
    refine z_getF X hI (k := 12) (ci := 12) (gR_s ex21) i_Mod rfl (by decide) wf_Mod_32 d_Mod_command_75 ?_
    refine lv_iload_n hx hb d_Mod_command_78 rfl (lv_at hl 0 rfl) ?_
    refine lv_iconst (v := 0) hx hb d_Mod_command_79 (by decide) ?_
    obtain ⟨h22, eh22, hf⟩ := z_bs hf
    refine z_iast X hI eh22 d_Mod_command_80 (fun H locs hI => ?_)
    refine lv_aload_n hx hb d_Mod_command_81 rfl (lv_at hl 1 rfl) ?_
    obtain ⟨x23, ex23, hf⟩ := z_bs hf
    refine z_getF X hI (k := 48) (ci := 12) (gI_s ex23) i_Mod rfl (by decide) wf_Mod_179 d_Mod_command_82 ?_
    refine lv_if_ne (tgt := 168) hx hb d_Mod_command_85 (by decide) (fun c24 => ?_) (fun c24 => ?_)
    · rw [if_neg c24] at hf
      exact s_Mod_command_168 X  v0 x5 h22 _ _ _ hI (lv_sub hl [1, 0] rfl) hf
    · rw [if_pos c24] at hf
      refine lv_aload_n hx hb d_Mod_command_88 rfl (lv_at hl 1 rfl) ?_
      obtain ⟨x25, ex25, hf⟩ := z_bs hf
      refine z_getF X hI (k := 10) (ci := 12) (gR_s ex25) i_Mod rfl (by decide) wf_Mod_26 d_Mod_command_89 ?_
      refine lv_iload_n hx hb d_Mod_command_92 rfl (lv_at hl 0 rfl) ?_
      obtain ⟨x26, ex26, hf⟩ := z_bs hf
      refine z_iald X hI ex26 d_Mod_command_93 ?_
      refine lv_if_le (tgt := 168) hx hb d_Mod_command_94 (by decide) (fun c27 => ?_) (fun c27 => ?_)
      · rw [if_pos c27] at hf
        exact s_Mod_command_168 X  v0 x5 h22 _ _ _ hI (lv_sub hl [1, 0] rfl) hf
      · rw [if_neg c27] at hf
        refine lv_aload_n hx hb d_Mod_command_97 rfl (lv_at hl 1 rfl) ?_
        obtain ⟨u28, eu28, hf⟩ := z_bs hf
        obtain ⟨r29, er29, hf⟩ := z_bs hf
        refine z_callV (As := []) (rest := []) (r := (some (.int r29.1))) (h' := r29.2) X hI eu28 (s_Mod_here er29) rfl rfl wm_Mod_183 yi_Mod_here rfl hl.1 rfl (Nat.le_of_ble_eq_true rfl) (by decide) (by decide) d_Mod_command_98 (fun H locs hI => ?_)
        refine W.eq (g2 := F0 m 101 ls [.int (r29.1)]) rfl ?_
        refine lv_bipush (v := 44) hx hb d_Mod_command_101 (by decide) ?_
        refine lv_icmp_ne (tgt := 168) hx hb d_Mod_command_103 (by decide) (fun c30 => ?_) (fun c30 => ?_)
        · rw [if_neg c30] at hf
          exact s_Mod_command_168 X  v0 x5 r29.2 _ _ _ hI (lv_sub hl [1, 0] rfl) hf
        · rw [if_pos c30] at hf
          refine lv_aload_n hx hb d_Mod_command_106 rfl (lv_at hl 1 rfl) ?_
          refine lv_dup hx hb d_Mod_command_107 rfl ?_
          obtain ⟨x31, ex31, hf⟩ := z_bs hf
          refine z_getF X hI (k := 41) (ci := 12) (gI_s ex31) i_Mod rfl (by decide) wf_Mod_176 d_Mod_command_108 ?_
          refine lv_iconst (v := 1) hx hb d_Mod_command_111 (by decide) ?_
          refine lv_iadd hx hb d_Mod_command_112 ?_
          obtain ⟨h32, eh32, hf⟩ := z_bs hf
          refine z_putF X hI (k := 41) (ci := 12) (ty0 := t_Mod) eh32 i_Mod t_Mod_ok n_Mod rfl (by decide) wf_Mod_176 rfl rfl rfl d_Mod_command_113 (fun H locs hI => ?_)
          refine lv_aload_n hx hb d_Mod_command_116 rfl (lv_at hl 1 rfl) ?_
          obtain ⟨x33, ex33, hf⟩ := z_bs hf
          refine z_getF X hI (k := 12) (ci := 12) (gR_s ex33) i_Mod rfl (by decide) wf_Mod_32 d_Mod_command_117 ?_
          refine lv_iload_n hx hb d_Mod_command_120 rfl (lv_at hl 0 rfl) ?_
          refine lv_aload_n hx hb d_Mod_command_121 rfl (lv_at hl 1 rfl) ?_
          obtain ⟨u34, eu34, hf⟩ := z_bs hf
          obtain ⟨r35, er35, hf⟩ := z_bs hf
          refine z_callV (As := []) (rest := [.int x5, .ref x33]) (r := (some (.int r35.1))) (h' := r35.2) X hI eu34 (s_Mod_address er35) rfl rfl wm_Mod_255 yi_Mod_address rfl hl.1 rfl (Nat.le_of_ble_eq_true rfl) (by decide) (by decide) d_Mod_command_122 (fun H locs hI => ?_)
          refine W.eq (g2 := F0 m 125 ls [.int (r35.1), .int x5, .ref x33]) rfl ?_
          obtain ⟨h36, eh36, hf⟩ := z_bs hf
          refine z_iast X hI eh36 d_Mod_command_125 (fun H locs hI => ?_)
          refine lv_aload_n hx hb d_Mod_command_126 rfl (lv_at hl 1 rfl) ?_
          obtain ⟨x37, ex37, hf⟩ := z_bs hf
          refine z_getF X hI (k := 13) (ci := 12) (gR_s ex37) i_Mod rfl (by decide) wf_Mod_35 d_Mod_command_127 ?_
          refine lv_iload_n hx hb d_Mod_command_130 rfl (lv_at hl 0 rfl) ?_
          refine lv_aload_n hx hb d_Mod_command_131 rfl (lv_at hl 1 rfl) ?_
          obtain ⟨x38, ex38, hf⟩ := z_bs hf
          refine z_getF X hI (k := 47) (ci := 12) (gI_s ex38) i_Mod rfl (by decide) wf_Mod_234 d_Mod_command_132 ?_
          obtain ⟨h39, eh39, hf⟩ := z_bs hf
          refine z_iast X hI eh39 d_Mod_command_135 (fun H locs hI => ?_)
          refine lv_aload_n hx hb d_Mod_command_136 rfl (lv_at hl 1 rfl) ?_
          obtain ⟨x40, ex40, hf⟩ := z_bs hf
          refine z_getF X hI (k := 12) (ci := 12) (gR_s ex40) i_Mod rfl (by decide) wf_Mod_32 d_Mod_command_137 ?_
          refine lv_iload_n hx hb d_Mod_command_140 rfl (lv_at hl 0 rfl) ?_
          obtain ⟨x41, ex41, hf⟩ := z_bs hf
          refine z_iald X hI ex41 d_Mod_command_141 ?_
          refine lv_if_ne (tgt := 168) hx hb d_Mod_command_142 (by decide) (fun c42 => ?_) (fun c42 => ?_)
          · rw [if_neg c42] at hf
            exact s_Mod_command_168 X  v0 x5 h39 _ _ _ hI (lv_sub hl [1, 0] rfl) hf
          · rw [if_pos c42] at hf
            refine lv_aload_n hx hb d_Mod_command_145 rfl (lv_at hl 1 rfl) ?_
            refine lv_aload_n hx hb d_Mod_command_146 rfl (lv_at hl 1 rfl) ?_
            obtain ⟨u43, eu43, hf⟩ := z_bs hf
            obtain ⟨r44, er44, hf⟩ := z_bs hf
            refine z_callV (As := []) (rest := [.ref v0]) (r := (some (.int r44.1))) (h' := r44.2) X hI eu43 (s_Mod_here er44) rfl rfl wm_Mod_183 yi_Mod_here rfl hl.1 rfl (Nat.le_of_ble_eq_true rfl) (by decide) (by decide) d_Mod_command_147 (fun H locs hI => ?_)
            refine W.eq (g2 := F0 m 150 ls [.int (r44.1), .ref v0]) rfl ?_
            refine lv_iconst (v := (-1)) hx hb d_Mod_command_150 (by decide) ?_
            refine lv_icmp_ne (tgt := 161) hx hb d_Mod_command_151 (by decide) (fun c45 => ?_) (fun c45 => ?_)
            · rw [if_neg c45] at hf
              refine lv_aload_n hx hb d_Mod_command_161 rfl (lv_at hl 1 rfl) ?_
              obtain ⟨x46, ex46, hf⟩ := z_bs hf
              refine z_getF X hI (k := 41) (ci := 12) (gI_s ex46) i_Mod rfl (by decide) wf_Mod_176 d_Mod_command_162 ?_
              exact s_Mod_command_165 X  v0 x5 v0 x46 r44.2 _ _ _ hI (lv_sub hl [1, 0] rfl) hf
            · rw [if_pos c45] at hf
              refine lv_aload_n hx hb d_Mod_command_154 rfl (lv_at hl 1 rfl) ?_
              obtain ⟨x47, ex47, hf⟩ := z_bs hf
              refine z_getF X hI (k := 3) (ci := 12) (gI_s ex47) i_Mod rfl (by decide) wf_Mod_166 d_Mod_command_155 ?_
              refine lv_goto (tgt := 165) hx hb d_Mod_command_158 (by decide) ?_
              exact s_Mod_command_165 X  v0 x5 v0 x47 r44.2 _ _ _ hI (lv_sub hl [1, 0] rfl) hf
  · rw [if_pos c9] at hf
    refine lv_aload_n hx hb d_Mod_command_32 rfl (lv_at hl 1 rfl) ?_
    refine lv_aload_n hx hb d_Mod_command_33 rfl (lv_at hl 1 rfl) ?_
    obtain ⟨x48, ex48, hf⟩ := z_bs hf
    refine z_getF X hI (k := 41) (ci := 12) (gI_s ex48) i_Mod rfl (by decide) wf_Mod_176 d_Mod_command_34 ?_
    obtain ⟨u49, eu49, hf⟩ := z_bs hf
    obtain ⟨r50, er50, hf⟩ := z_bs hf
    refine z_callV (As := [.int x48]) (rest := []) (r := none) (h' := r50) X hI eu49 (s_Mod_wrong er50) rfl rfl wm_Mod_187 yi_Mod_wrong rfl hl.1 rfl (Nat.le_of_ble_eq_true rfl) (by decide) (by decide) d_Mod_command_37 (fun H locs hI => ?_)
    refine W.eq (g2 := F0 m 40 ls []) rfl ?_
    cases hf
    exact z_vret X hI d_Mod_command_40
end
