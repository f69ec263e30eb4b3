section
variable {p : Program} {l : Launch} {e : Env} {s : State} {m : MethodId} {args : Array Value} {below : List Frame} {meth : Method} {c : Code} {Ts : List Cond} {own : String} {D : va_G} {dA : Nat → ClassId} {B : Nat}
def f_Mod_isMember_47 (N : Nat)  (s0 : Nat) (s1 : Int32) (h : z_H) : Option (Int32 × z_H) :=
  z_b (gO h s0 12) fun u1 =>
  z_b (f_Mod_wrong N s0 s1 h) fun r2 =>
  some (0, r2)
set_option maxRecDepth 20000 in
set_option maxHeartbeats 2000000 in
theorem s_Mod_isMember_47 (X : z_X p s m args meth c prog_14_method_20_code 2 (some .boolean) Ts "StreamForgeModel" D dA B) {N : Nat} {r : Int32} {h' : z_H}   : ∀ (s0 : Nat) (s1 : Int32) (h : z_H) (H : Heap) (locs : List Loc) (ls : Array Slot), z_I D dA B h s.heap H locs → lv_has ls 2 [] → f_Mod_isMember_47 N  s0 s1 h = some (r, h') → W p l e (z_rm 1 21) s m args below meth c H locs 0 0 (MQ below (z_Q D dA B (some (.int r)) h') args s 0 0 (fun q => B ≤ q)) (F0 m 47 ls [.int s1, .ref s0]) := by
  have hx := z_hx X
  have hb := z_hb X
  intro s0 s1 h H locs ls hI hl hf
  unfold f_Mod_isMember_47 at hf
  obtain ⟨u1, eu1, hf⟩ := z_bs hf
  obtain ⟨r2, er2, hf⟩ := z_bs hf
  refine z_callV (As := [.int s1]) (rest := []) (r := none) (h' := r2) X hI eu1 (s_Mod_wrong er2) rfl rfl wm_Mod_187 yi_Mod_wrong rfl hl.1 rfl (Nat.le_of_ble_eq_true rfl) (by decide) (by decide) d_Mod_isMember_47 (fun H locs hI => ?_)
  refine W.eq (g2 := F0 m 50 ls []) rfl ?_
  refine lv_iconst (v := 0) hx hb d_Mod_isMember_50 (by decide) ?_
  cases hf
  exact z_zret X hI (Or.inl rfl) d_Mod_isMember_51
def f_Mod_isMember_30 (N : Nat)  (v0 : Nat) (v1 : Int32) (h : z_H) : Option (Int32 × z_H) :=
  if v1 = (-1) then
  (z_b (gI h v0 12 3) fun x3 =>
  f_Mod_isMember_47 N v0 x3 h)
  else
  (z_b (gI h v0 12 41) fun x2 =>
  f_Mod_isMember_47 N v0 x2 h)
set_option maxRecDepth 20000 in
set_option maxHeartbeats 2000000 in
theorem s_Mod_isMember_30 (X : z_X p s m args meth c prog_14_method_20_code 2 (some .boolean) Ts "StreamForgeModel" D dA B) {N : Nat} {r : Int32} {h' : z_H}   : ∀ (v0 : Nat) (v1 : Int32) (h : z_H) (H : Heap) (locs : List Loc) (ls : Array Slot), z_I D dA B h s.heap H locs → lv_has ls 2 [(0, .ref v0), (1, .int v1)] → f_Mod_isMember_30 N  v0 v1 h = some (r, h') → W p l e (z_rm 1 21) s m args below meth c H locs 0 0 (MQ below (z_Q D dA B (some (.int r)) h') args s 0 0 (fun q => B ≤ q)) (F0 m 30 ls []) := by
  have hx := z_hx X
  have hb := z_hb X
  intro v0 v1 h H locs ls hI hl hf
  unfold f_Mod_isMember_30 at hf
  refine lv_aload_n hx hb d_Mod_isMember_30 rfl (lv_at hl 0 rfl) ?_
  refine lv_iload_n hx hb d_Mod_isMember_31 rfl (lv_at hl 1 rfl) ?_
  refine lv_iconst (v := (-1)) hx hb d_Mod_isMember_32 (by decide) ?_
  refine lv_icmp_ne (tgt := 43) hx hb d_Mod_isMember_33 (by decide) (fun c1 => ?_) (fun c1 => ?_)
  · rw [if_neg c1] at hf
    refine lv_aload_n hx hb d_Mod_isMember_43 rfl (lv_at hl 0 rfl) ?_
    obtain ⟨x2, ex2, hf⟩ := z_bs hf
    refine z_getF X hI (k := 41) (ci := 12) (gI_s ex2) i_Mod rfl (by decide) wf_Mod_176 d_Mod_isMember_44 ?_
    exact s_Mod_isMember_47 X  v0 x2 h _ _ _ hI (lv_sub hl [] rfl) hf
  · rw [if_pos c1] at hf
    refine lv_aload_n hx hb d_Mod_isMember_36 rfl (lv_at hl 0 rfl) ?_
    obtain ⟨x3, ex3, hf⟩ := z_bs hf
    refine z_getF X hI (k := 3) (ci := 12) (gI_s ex3) i_Mod rfl (by decide) wf_Mod_166 d_Mod_isMember_37 ?_
    refine lv_goto (tgt := 47) hx hb d_Mod_isMember_40 (by decide) ?_
    exact s_Mod_isMember_47 X  v0 x3 h _ _ _ hI (lv_sub hl [] rfl) hf
def f_Mod_isMember (N : Nat) (v0 : Nat) (h : z_H) : Option (Int32 × z_H) :=
  z_b (gO h v0 12) fun u1 =>
  z_b (f_Mod_here N v0 h) fun r2 =>
  z_b (some (r2.1)) fun x3 =>
  if x3 = (-1) then
  (f_Mod_isMember_30 N v0 x3 r2.2)
  else
  (if x3 = 10 then
  (f_Mod_isMember_30 N v0 x3 r2.2)
  else
  (if x3 = 47 then
  (f_Mod_isMember_30 N v0 x3 r2.2)
  else
  (if x3 = 93 then
  (f_Mod_isMember_30 N v0 x3 r2.2)
  else
  (some (1, r2.2)))))
set_option maxRecDepth 20000 in
set_option maxHeartbeats 2000000 in
theorem s_Mod_isMember {l : Launch} {D : va_G} {dA : Nat → ClassId} {B N : Nat} {v0 : Nat} {h h' : z_H} {r : Int32} (hf : f_Mod_isMember N v0 h = some (r, h')) : z_Met l y_Mod_isMember prog_14_method_20_code 2 (some .boolean) 1 21 D dA B [.ref v0] h (some (.int r)) h' := by
  refine z_of (by decide) (Nat.le_of_ble_eq_true rfl) (fun p e s m below meth c ls X hI hl => ?_)
  have hx := z_hx X
  have hb := z_hb X
  have hl : lv_has ls 2 [(0, .ref v0)] := hl
  unfold f_Mod_isMember at hf
  obtain ⟨locs, hlo⟩ : ∃ z : List Loc, z = [] := ⟨_, rfl⟩
  rw [← hlo] at hI ⊢
  refine lv_aload_n hx hb d_Mod_isMember_0 rfl (lv_at hl 0 rfl) ?_
  obtain ⟨u1, eu1, hf⟩ := z_bs hf
  obtain ⟨r2, er2, hf⟩ := z_bs hf
  refine z_callV (As := []) (rest := []) (r := (some (.int r2.1))) (h' := r2.2) X hI eu1 (s_Mod_here er2) rfl rfl wm_Mod_183 yi_Mod_here rfl hl.1 rfl (Nat.le_of_ble_eq_true rfl) (by decide) (by decide) d_Mod_isMember_1 (fun H locs hI => ?_)
  refine W.eq (g2 := F0 m 4 ls [.int (r2.1)]) rfl ?_
  obtain ⟨x3, ex3, hf⟩ := z_bs hf
  refine z_topi (Option.some.inj ex3) ?_
  refine lv_istore_n (lv' := [(1, .int x3), (0, .ref v0)]) hx hb d_Mod_isMember_4 rfl hl (by decide) rfl (fun ls hl => ?_)
  refine lv_iload_n hx hb d_Mod_isMember_5 rfl (lv_at hl 0 rfl) ?_
  refine lv_iconst (v := (-1)) hx hb d_Mod_isMember_6 (by decide) ?_
  refine lv_icmp_eq (tgt := 30) hx hb d_Mod_isMember_7 (by decide) (fun c4 => ?_) (fun c4 => ?_)
  · rw [if_pos c4] at hf
    exact s_Mod_isMember_30 X  v0 x3 r2.2 _ _ _ hI (lv_sub hl [1, 0] rfl) hf
  · rw [if_neg c4] at hf
    refine lv_iload_n hx hb d_Mod_isMember_10 rfl (lv_at hl 0 rfl) ?_
    refine lv_bipush (v := 10) hx hb d_Mod_isMember_11 (by decide) ?_
    refine lv_icmp_eq (tgt := 30) hx hb d_Mod_isMember_13 (by decide) (fun c5 => ?_) (fun c5 => ?_)
    · rw [if_pos c5] at hf
      exact s_Mod_isMember_30 X  v0 x3 r2.2 _ _ _ hI (lv_sub hl [1, 0] rfl) hf
    · rw [if_neg c5] at hf
      refine lv_iload_n hx hb d_Mod_isMember_16 rfl (lv_at hl 0 rfl) ?_
      refine lv_bipush (v := 47) hx hb d_Mod_isMember_17 (by decide) ?_
      refine lv_icmp_eq (tgt := 30) hx hb d_Mod_isMember_19 (by decide) (fun c6 => ?_) (fun c6 => ?_)
      · rw [if_pos c6] at hf
        exact s_Mod_isMember_30 X  v0 x3 r2.2 _ _ _ hI (lv_sub hl [1, 0] rfl) hf
      · rw [if_neg c6] at hf
        refine lv_iload_n hx hb d_Mod_isMember_22 rfl (lv_at hl 0 rfl) ?_
        refine lv_bipush (v := 93) hx hb d_Mod_isMember_23 (by decide) ?_
        refine lv_icmp_eq (tgt := 30) hx hb d_Mod_isMember_25 (by decide) (fun c7 => ?_) (fun c7 => ?_)
        · rw [if_pos c7] at hf
          exact s_Mod_isMember_30 X  v0 x3 r2.2 _ _ _ hI (lv_sub hl [1, 0] rfl) hf
        · rw [if_neg c7] at hf
          refine lv_iconst (v := 1) hx hb d_Mod_isMember_28 (by decide) ?_
          cases hf
          exact z_zret X hI (Or.inr rfl) d_Mod_isMember_29
def f_Mod_set_202 (N : Nat) (k78 : Nat → Int32 → Int32 → Int32 → z_H → Option z_H) (v0 : Nat) (v2 : Int32) (v3 : Int32) (v6 : Int32) (v7 : Int32) (h : z_H) : Option z_H :=
  z_b (gO h v0 12) fun u1 =>
  z_b (f_Mod_put N v0 v2 v6 v7 h) fun r2 =>
  k78 v0 v2 v3 1 r2
set_option maxRecDepth 20000 in
set_option maxHeartbeats 2000000 in
theorem s_Mod_set_202 (X : z_X p s m args meth c prog_14_method_21_code 8 none Ts "StreamForgeModel" D dA B) {N : Nat} {h' : z_H} {k78 : Nat → Int32 → Int32 → Int32 → z_H → Option z_H} (hk78 : ∀ (v0 : Nat) (v2 : Int32) (v3 : Int32) (v4 : Int32) (h : z_H) (H : Heap) (locs : List Loc) (ls : Array Slot), z_I D dA B h s.heap H locs → lv_has ls 8 [(0, .ref v0), (2, .int v2), (3, .int v3), (4, .int v4)] → k78 v0 v2 v3 v4 h = some h' → W p l e (z_rm 2 46) s m args below meth c H locs 0 0 (MQ below (z_Q D dA B none h') args s 0 0 (fun q => B ≤ q)) (F0 m 78 ls [])) : ∀ (v0 : Nat) (v2 : Int32) (v3 : Int32) (v6 : Int32) (v7 : Int32) (h : z_H) (H : Heap) (locs : List Loc) (ls : Array Slot), z_I D dA B h s.heap H locs → lv_has ls 8 [(0, .ref v0), (2, .int v2), (3, .int v3), (6, .int v6), (7, .int v7)] → f_Mod_set_202 N k78 v0 v2 v3 v6 v7 h = some h' → W p l e (z_rm 2 46) s m args below meth c H locs 0 0 (MQ below (z_Q D dA B none h') args s 0 0 (fun q => B ≤ q)) (F0 m 202 ls []) := by
  have hx := z_hx X
  have hb := z_hb X
  intro v0 v2 v3 v6 v7 h H locs ls hI hl hf
  unfold f_Mod_set_202 at hf
  refine lv_aload_n hx hb d_Mod_set_202 rfl (lv_at hl 0 rfl) ?_
  refine lv_iload_n hx hb d_Mod_set_203 rfl (lv_at hl 1 rfl) ?_
  refine lv_iload hx hb d_Mod_set_204 (lv_at hl 3 rfl) ?_
  refine lv_iload hx hb d_Mod_set_206 (lv_at hl 4 rfl) ?_
  obtain ⟨u1, eu1, hf⟩ := z_bs hf
  obtain ⟨r2, er2, hf⟩ := z_bs hf
  refine z_callV (As := [.int v2, .int v6, .int v7]) (rest := []) (r := none) (h' := r2) X hI eu1 (s_Mod_put er2) rfl rfl wm_Mod_217 yi_Mod_put rfl hl.1 rfl (Nat.le_of_ble_eq_true rfl) (by decide) (by decide) d_Mod_set_208 (fun H locs hI => ?_)
  refine W.eq (g2 := F0 m 211 ls []) rfl ?_
  refine lv_iconst (v := 1) hx hb d_Mod_set_211 (by decide) ?_
  refine lv_istore (lv' := [(4, .int 1), (0, .ref v0), (2, .int v2), (3, .int v3), (6, .int v6), (7, .int v7)]) hx hb d_Mod_set_212 hl (by decide) rfl (fun ls hl => ?_)
  refine lv_goto (tgt := 78) hx hb d_Mod_set_214 (by decide) ?_
  exact hk78 v0 v2 v3 1 r2 _ _ _ hI (lv_sub hl [1, 2, 3, 0] rfl) hf
def f_Mod_set_192 (N : Nat) (k78 : Nat → Int32 → Int32 → Int32 → z_H → Option z_H) (v0 : Nat) (v2 : Int32) (v3 : Int32) (v6 : Int32) (v7 : Int32) (h : z_H) : Option z_H :=
  z_b (gI h v0 12 41) fun x1 =>
  z_b (sF h v0 12 41 (.int (x1 + 1))) fun h2 =>
  f_Mod_set_202 N k78 v0 v2 v3 v6 v7 h2
set_option maxRecDepth 20000 in
set_option maxHeartbeats 2000000 in
theorem s_Mod_set_192 (X : z_X p s m args meth c prog_14_method_21_code 8 none Ts "StreamForgeModel" D dA B) {N : Nat} {h' : z_H} {k78 : Nat → Int32 → Int32 → Int32 → z_H → Option z_H} (hk78 : ∀ (v0 : Nat) (v2 : Int32) (v3 : Int32) (v4 : Int32) (h : z_H) (H : Heap) (locs : List Loc) (ls : Array Slot), z_I D dA B h s.heap H locs → lv_has ls 8 [(0, .ref v0), (2, .int v2), (3, .int v3), (4, .int v4)] → k78 v0 v2 v3 v4 h = some h' → W p l e (z_rm 2 46) s m args below meth c H locs 0 0 (MQ below (z_Q D dA B none h') args s 0 0 (fun q => B ≤ q)) (F0 m 78 ls [])) : ∀ (v0 : Nat) (v2 : Int32) (v3 : Int32) (v6 : Int32) (v7 : Int32) (h : z_H) (H : Heap) (locs : List Loc) (ls : Array Slot), z_I D dA B h s.heap H locs → lv_has ls 8 [(0, .ref v0), (2, .int v2), (3, .int v3), (6, .int v6), (7, .int v7)] → f_Mod_set_192 N k78 v0 v2 v3 v6 v7 h = some h' → W p l e (z_rm 2 46) s m args below meth c H locs 0 0 (MQ below (z_Q D dA B none h') args s 0 0 (fun q => B ≤ q)) (F0 m 192 ls []) := by
  have hx := z_hx X
  have hb := z_hb X
  intro v0 v2 v3 v6 v7 h H locs ls hI hl hf
  unfold f_Mod_set_192 at hf
  refine lv_aload_n hx hb d_Mod_set_192 rfl (lv_at hl 0 rfl) ?_
  refine lv_dup hx hb d_Mod_set_193 rfl ?_
  obtain ⟨x1, ex1, hf⟩ := z_bs hf
  refine z_getF X hI (k := 41) (ci := 12) (gI_s ex1) i_Mod rfl (by decide) wf_Mod_176 d_Mod_set_194 ?_
  refine lv_iconst (v := 1) hx hb d_Mod_set_197 (by decide) ?_
  refine lv_iadd hx hb d_Mod_set_198 ?_
  obtain ⟨h2, eh2, hf⟩ := z_bs hf
  refine z_putF X hI (k := 41) (ci := 12) (ty0 := t_Mod) eh2 i_Mod t_Mod_ok n_Mod rfl (by decide) wf_Mod_176 rfl rfl rfl d_Mod_set_199 (fun H locs hI => ?_)
  exact s_Mod_set_202 X hk78 v0 v2 v3 v6 v7 h2 _ _ _ hI (lv_sub hl [0, 1, 2, 3, 4] rfl) hf
def f_Mod_set_99 (N : Nat) (k78 : Nat → Int32 → Int32 → Int32 → z_H → Option z_H) (v0 : Nat) (v2 : Int32) (v3 : Int32) (h : z_H) : Option z_H :=
  z_b (gO h v0 12) fun u1 =>
  z_b (f_Mod_isMember N v0 h) fun r2 =>
  z_b (some (r2.1)) fun x3 =>
  if x3 = 0 then
  (some r2.2)
  else
  (z_b (gO r2.2 v0 12) fun u5 =>
  z_b (f_Mod_here N v0 r2.2) fun r6 =>
  z_b (some (r6.1)) fun x7 =>
  z_b (gI r6.2 v0 12 41) fun x8 =>
  z_b (sF r6.2 v0 12 41 (.int (x8 + 1))) fun h9 =>
  z_b (gO h9 v0 12) fun u10 =>
  z_b (f_Mod_here N v0 h9) fun r11 =>
  if (r11.1) = 45 then
  (z_b (gO r11.2 v0 12) fun u13 =>
  z_b (f_Mod_behind N v0 r11.2) fun r14 =>
  if (r14.1) = 93 then
  (f_Mod_set_202 N k78 v0 v2 v3 x7 x7 r14.2)
  else
  (z_b (gI r14.2 v0 12 41) fun x16 =>
  z_b (sF r14.2 v0 12 41 (.int (x16 + 1))) fun h17 =>
  z_b (gO h17 v0 12) fun u18 =>
  z_b (f_Mod_isMember N v0 h17) fun r19 =>
  z_b (some (r19.1)) fun x20 =>
  if x20 = 0 then
  (some r19.2)
  else
  (z_b (gO r19.2 v0 12) fun u22 =>
  z_b (f_Mod_here N v0 r19.2) fun r23 =>
  z_b (some (r23.1)) fun x24 =>
  if x7 ≤ x24 then
  (f_Mod_set_192 N k78 v0 v2 v3 x7 x24 r23.2)
  else
  (z_b (gI r23.2 v0 12 41) fun x26 =>
  z_b (gO r23.2 v0 12) fun u27 =>
  z_b (f_Mod_wrong N v0 x26 r23.2) fun r28 =>
  f_Mod_set_192 N k78 v0 v2 v3 x7 x24 r28))))
  else
  (f_Mod_set_202 N k78 v0 v2 v3 x7 x7 r11.2))
set_option maxRecDepth 20000 in
set_option maxHeartbeats 2000000 in
theorem s_Mod_set_99 (X : z_X p s m args meth c prog_14_method_21_code 8 none Ts "StreamForgeModel" D dA B) {N : Nat} {h' : z_H} {k78 : Nat → Int32 → Int32 → Int32 → z_H → Option z_H} (hk78 : ∀ (v0 : Nat) (v2 : Int32) (v3 : Int32) (v4 : Int32) (h : z_H) (H : Heap) (locs : List Loc) (ls : Array Slot), z_I D dA B h s.heap H locs → lv_has ls 8 [(0, .ref v0), (2, .int v2), (3, .int v3), (4, .int v4)] → k78 v0 v2 v3 v4 h = some h' → W p l e (z_rm 2 46) s m args below meth c H locs 0 0 (MQ below (z_Q D dA B none h') args s 0 0 (fun q => B ≤ q)) (F0 m 78 ls [])) : ∀ (v0 : Nat) (v2 : Int32) (v3 : Int32) (h : z_H) (H : Heap) (locs : List Loc) (ls : Array Slot), z_I D dA B h s.heap H locs → lv_has ls 8 [(0, .ref v0), (2, .int v2), (3, .int v3)] → f_Mod_set_99 N k78 v0 v2 v3 h = some h' → W p l e (z_rm 2 46) s m args below meth c H locs 0 0 (MQ below (z_Q D dA B none h') args s 0 0 (fun q => B ≤ q)) (F0 m 99 ls []) := by
  have hx := z_hx X
  have hb := z_hb X
  intro v0 v2 v3 h H locs ls hI hl hf
  unfold f_Mod_set_99 at hf
  refine lv_aload_n hx hb d_Mod_set_99 rfl (lv_at hl 0 rfl) ?_
  obtain ⟨u1, eu1, hf⟩ := z_bs hf
  obtain ⟨r2, er2, hf⟩ := z_bs hf
  refine z_callV (As := []) (rest := []) (r := (some (.int r2.1))) (h' := r2.2) X hI eu1 (s_Mod_isMember er2) rfl rfl wm_Mod_213 yi_Mod_isMember rfl hl.1 rfl (Nat.le_of_ble_eq_true rfl) (by decide) (by decide) d_Mod_set_100 (fun H locs hI => ?_)
  refine W.eq (g2 := F0 m 103 ls [.int (r2.1)]) rfl ?_
  obtain ⟨x3, ex3, hf⟩ := z_bs hf
  refine z_topi (Option.some.inj ex3) ?_
  refine lv_istore (lv' := [(5, .int x3), (0, .ref v0), (2, .int v2), (3, .int v3)]) hx hb d_Mod_set_103 hl (by decide) rfl (fun ls hl => ?_)
  refine lv_iload hx hb d_Mod_set_105 (lv_at hl 0 rfl) ?_
  refine lv_if_ne (tgt := 111) hx hb d_Mod_set_107 (by decide) (fun c4 => ?_) (fun c4 => ?_)
  · rw [if_neg c4] at hf
    refine lv_aload_n hx hb d_Mod_set_111 rfl (lv_at hl 1 rfl) ?_
    obtain ⟨u5, eu5, hf⟩ := z_bs hf
    obtain ⟨r6, er6, hf⟩ := z_bs hf
    refine z_callV (As := []) (rest := []) (r := (some (.int r6.1))) (h' := r6.2) X hI eu5 (s_Mod_here er6) rfl rfl wm_Mod_183 yi_Mod_here rfl hl.1 rfl (Nat.le_of_ble_eq_true rfl) (by decide) (by decide) d_Mod_set_112 (fun H locs hI => ?_)
    refine W.eq (g2 := F0 m 115 ls [.int (r6.1)]) rfl ?_
    obtain ⟨x7, ex7, hf⟩ := z_bs hf
    refine z_topi (Option.some.inj ex7) ?_
    refine lv_istore (lv' := [(6, .int x7), (5, .int x3), (0, .ref v0), (2, .int v2), (3, .int v3)]) hx hb d_Mod_set_115 hl (by decide) rfl (fun ls hl => ?_)
    refine lv_iload hx hb d_Mod_set_117 (lv_at hl 0 rfl) ?_
    refine lv_istore (lv' := [(7, .int x7), (6, .int x7), (5, .int x3), (0, .ref v0), (2, .int v2), (3, .int v3)]) hx hb d_Mod_set_119 hl (by decide) rfl (fun ls hl => ?_)
    refine lv_aload_n hx hb d_Mod_set_121 rfl (lv_at hl 3 rfl) ?_
    refine lv_dup hx hb d_Mod_set_122 rfl ?_
    obtain ⟨x8, ex8, hf⟩ := z_bs hf
    refine z_getF X hI (k := 41) (ci := 12) (gI_s ex8) i_Mod rfl (by decide) wf_Mod_176 d_Mod_set_123 ?_
    refine lv_iconst (v := 1) hx hb d_Mod_set_126 (by decide) ?_
    refine lv_iadd hx hb d_Mod_set_127 ?_
    obtain ⟨h9, eh9, hf⟩ := z_bs hf
    refine z_putF X hI (k := 41) (ci := 12) (ty0 := t_Mod) eh9 i_Mod t_Mod_ok n_Mod rfl (by decide) wf_Mod_176 rfl rfl rfl d_Mod_set_128 (fun H locs hI => ?_)
    refine lv_aload_n hx hb d_Mod_set_131 rfl (lv_at hl 3 rfl) ?_
    obtain ⟨u10, eu10, hf⟩ := z_bs hf
    obtain ⟨r11, er11, hf⟩ := z_bs hf
    refine z_callV (As := []) (rest := []) (r := (some (.int r11.1))) (h' := r11.2) X hI eu10 (s_Mod_here er11) rfl rfl wm_Mod_183 yi_Mod_here rfl hl.1 rfl (Nat.le_of_ble_eq_true rfl) (by decide) (by decide) d_Mod_set_132 (fun H locs hI => ?_)
    refine W.eq (g2 := F0 m 135 ls [.int (r11.1)]) rfl ?_
    refine lv_bipush (v := 45) hx hb d_Mod_set_135 (by decide) ?_
    refine lv_icmp_ne (tgt := 202) hx hb d_Mod_set_137 (by decide) (fun c12 => ?_) (fun c12 => ?_)
    · rw [if_neg c12] at hf
      exact s_Mod_set_202 X hk78 v0 v2 v3 x7 x7 r11.2 _ _ _ hI (lv_sub hl [3, 4, 5, 1, 0] rfl) hf
    · rw [if_pos c12] at hf
      refine lv_aload_n hx hb d_Mod_set_140 rfl (lv_at hl 3 rfl) ?_
      obtain ⟨u13, eu13, hf⟩ := z_bs hf
      obtain ⟨r14, er14, hf⟩ := z_bs hf
      refine z_callV (As := []) (rest := []) (r := (some (.int r14.1))) (h' := r14.2) X hI eu13 (s_Mod_behind er14) rfl rfl wm_Mod_200 yi_Mod_behind rfl hl.1 rfl (Nat.le_of_ble_eq_true rfl) (by decide) (by decide) d_Mod_set_141 (fun H locs hI => ?_)
      refine W.eq (g2 := F0 m 144 ls [.int (r14.1)]) rfl ?_
      refine lv_bipush (v := 93) hx hb d_Mod_set_144 (by decide) ?_
      refine lv_icmp_eq (tgt := 202) hx hb d_Mod_set_146 (by decide) (fun c15 => ?_) (fun c15 => ?_)
      · rw [if_pos c15] at hf
        exact s_Mod_set_202 X hk78 v0 v2 v3 x7 x7 r14.2 _ _ _ hI (lv_sub hl [3, 4, 5, 1, 0] rfl) hf
      · rw [if_neg c15] at hf
        refine lv_aload_n hx hb d_Mod_set_149 rfl (lv_at hl 3 rfl) ?_
        refine lv_dup hx hb d_Mod_set_150 rfl ?_
        obtain ⟨x16, ex16, hf⟩ := z_bs hf
        refine z_getF X hI (k := 41) (ci := 12) (gI_s ex16) i_Mod rfl (by decide) wf_Mod_176 d_Mod_set_151 ?_
        refine lv_iconst (v := 1) hx hb d_Mod_set_154 (by decide) ?_
        refine lv_iadd hx hb d_Mod_set_155 ?_
        obtain ⟨h17, eh17, hf⟩ := z_bs hf
        refine z_putF X hI (k := 41) (ci := 12) (ty0 := t_Mod) eh17 i_Mod t_Mod_ok n_Mod rfl (by decide) wf_Mod_176 rfl rfl rfl d_Mod_set_156 (fun H locs hI => ?_)
        refine lv_aload_n hx hb d_Mod_set_159 rfl (lv_at hl 3 rfl) ?_
        obtain ⟨u18, eu18, hf⟩ := z_bs hf
        obtain ⟨r19, er19, hf⟩ := z_bs hf
        refine z_callV (As := []) (rest := []) (r := (some (.int r19.1))) (h' := r19.2) X hI eu18 (s_Mod_isMember er19) rfl rfl wm_Mod_213 yi_Mod_isMember rfl hl.1 rfl (Nat.le_of_ble_eq_true rfl) (by decide) (by decide) d_Mod_set_160 (fun H locs hI => ?_)
        refine W.eq (g2 := F0 m 163 ls [.int (r19.1)]) rfl ?_
        obtain ⟨x20, ex20, hf⟩ := z_bs hf
        refine z_topi (Option.some.inj ex20) ?_
        refine lv_istore (lv' := [(5, .int x20), (7, .int x7), (6, .int x7), (0, .ref v0), (2, .int v2), (3, .int v3)]) hx hb d_Mod_set_163 hl (by decide) rfl (fun ls hl => ?_)
        refine lv_iload hx hb d_Mod_set_165 (lv_at hl 0 rfl) ?_
        refine lv_if_ne (tgt := 171) hx hb d_Mod_set_167 (by decide) (fun c21 => ?_) (fun c21 => ?_)
        · rw [if_neg c21] at hf
          refine lv_aload_n hx hb d_Mod_set_171 rfl (lv_at hl 3 rfl) ?_
          obtain ⟨u22, eu22, hf⟩ := z_bs hf
          obtain ⟨r23, er23, hf⟩ := z_bs hf
          refine z_callV (As := []) (rest := []) (r := (some (.int r23.1))) (h' := r23.2) X hI eu22 (s_Mod_here er23) rfl rfl wm_Mod_183 yi_Mod_here rfl hl.1 rfl (Nat.le_of_ble_eq_true rfl) (by decide) (by decide) d_Mod_set_172 (fun H locs hI => ?_)
          refine W.eq (g2 := F0 m 175 ls [.int (r23.1)]) rfl ?_
          obtain ⟨x24, ex24, hf⟩ := z_bs hf
          refine z_topi (Option.some.inj ex24) ?_
          refine lv_istore (lv' := [(7, .int x24), (5, .int x20), (6, .int x7), (0, .ref v0), (2, .int v2), (3, .int v3)]) hx hb d_Mod_set_175 hl (by decide) rfl (fun ls hl => ?_)
          refine lv_iload hx hb d_Mod_set_177 (lv_at hl 0 rfl) ?_
          refine lv_iload hx hb d_Mod_set_179 (lv_at hl 2 rfl) ?_
          refine lv_icmp_ge (tgt := 192) hx hb d_Mod_set_181 (by decide) (fun c25 => ?_) (fun c25 => ?_)
          · rw [if_pos c25] at hf
            exact s_Mod_set_192 X hk78 v0 v2 v3 x7 x24 r23.2 _ _ _ hI (lv_sub hl [3, 4, 5, 2, 0] rfl) hf
          · rw [if_neg c25] at hf
            refine lv_aload_n hx hb d_Mod_set_184 rfl (lv_at hl 3 rfl) ?_
            refine lv_aload_n hx hb d_Mod_set_185 rfl (lv_at hl 3 rfl) ?_
            obtain ⟨x26, ex26, hf⟩ := z_bs hf
            refine z_getF X hI (k := 41) (ci := 12) (gI_s ex26) i_Mod rfl (by decide) wf_Mod_176 d_Mod_set_186 ?_
            obtain ⟨u27, eu27, hf⟩ := z_bs hf
            obtain ⟨r28, er28, hf⟩ := z_bs hf
            refine z_callV (As := [.int x26]) (rest := []) (r := none) (h' := r28) X hI eu27 (s_Mod_wrong er28) rfl rfl wm_Mod_187 yi_Mod_wrong rfl hl.1 rfl (Nat.le_of_ble_eq_true rfl) (by decide) (by decide) d_Mod_set_189 (fun H locs hI => ?_)
            refine W.eq (g2 := F0 m 192 ls []) rfl ?_
            exact s_Mod_set_192 X hk78 v0 v2 v3 x7 x24 r28 _ _ _ hI (lv_sub hl [3, 4, 5, 2, 0] rfl) hf
        · rw [if_pos c21] at hf
          cases hf
          exact z_vret X hI d_Mod_set_170
  · rw [if_pos c4] at hf
    cases hf
    exact z_vret X hI d_Mod_set_110
def f_Mod_set_217 (N : Nat)  (v0 : Nat) (v2 : Int32) (v3 : Int32) (h : z_H) : Option z_H :=
  z_b (gI h v0 12 41) fun x1 =>
  z_b (sF h v0 12 41 (.int (x1 + 1))) fun h2 =>
  if v3 = 0 then
  (some h2)
  else
  (z_b (gR h2 v0 12 37) fun x4 =>
  z_b (gR h2 v0 12 37) fun x5 =>
  z_b (aL h2 x5 v2) fun x6 =>
  z_b (uL h2 x4 v2 (x6 ^^^ (-1))) fun h7 =>
  z_b (gR h7 v0 12 38) fun x8 =>
  z_b (gR h7 v0 12 38) fun x9 =>
  z_b (aL h7 x9 v2) fun x10 =>
  z_b (uL h7 x8 v2 (x10 ^^^ (-1))) fun h11 =>
  some h11)
set_option maxRecDepth 20000 in
set_option maxHeartbeats 2000000 in
theorem s_Mod_set_217 (X : z_X p s m args meth c prog_14_method_21_code 8 none Ts "StreamForgeModel" D dA B) {N : Nat} {h' : z_H}   : ∀ (v0 : Nat) (v2 : Int32) (v3 : Int32) (h : z_H) (H : Heap) (locs : List Loc) (ls : Array Slot), z_I D dA B h s.heap H locs → lv_has ls 8 [(0, .ref v0), (2, .int v2), (3, .int v3)] → f_Mod_set_217 N  v0 v2 v3 h = some h' → W p l e (z_rm 2 46) s m args below meth c H locs 0 0 (MQ below (z_Q D dA B none h') args s 0 0 (fun q => B ≤ q)) (F0 m 217 ls []) := by
  have hx := z_hx X
  have hb := z_hb X
  intro v0 v2 v3 h H locs ls hI hl hf
  unfold f_Mod_set_217 at hf
  refine lv_aload_n hx hb d_Mod_set_217 rfl (lv_at hl 0 rfl) ?_
  refine lv_dup hx hb d_Mod_set_218 rfl ?_
  obtain ⟨x1, ex1, hf⟩ := z_bs hf
  refine z_getF X hI (k := 41) (ci := 12) (gI_s ex1) i_Mod rfl (by decide) wf_Mod_176 d_Mod_set_219 ?_
  refine lv_iconst (v := 1) hx hb d_Mod_set_222 (by decide) ?_
  refine lv_iadd hx hb d_Mod_set_223 ?_
  obtain ⟨h2, eh2, hf⟩ := z_bs hf
  refine z_putF X hI (k := 41) (ci := 12) (ty0 := t_Mod) eh2 i_Mod t_Mod_ok n_Mod rfl (by decide) wf_Mod_176 rfl rfl rfl d_Mod_set_224 (fun H locs hI => ?_)
  refine lv_iload_n hx hb d_Mod_set_227 rfl (lv_at hl 2 rfl) ?_
  refine lv_if_ne (tgt := 232) hx hb d_Mod_set_228 (by decide) (fun c3 => ?_) (fun c3 => ?_)
  · rw [if_neg c3] at hf
    refine lv_aload_n hx hb d_Mod_set_232 rfl (lv_at hl 0 rfl) ?_
    obtain ⟨x4, ex4, hf⟩ := z_bs hf
    refine z_getF X hI (k := 37) (ci := 12) (gR_s ex4) i_Mod rfl (by decide) wf_Mod_108 d_Mod_set_233 ?_
    refine lv_iload_n hx hb d_Mod_set_236 rfl (lv_at hl 1 rfl) ?_
    refine lv_aload_n hx hb d_Mod_set_237 rfl (lv_at hl 0 rfl) ?_
    obtain ⟨x5, ex5, hf⟩ := z_bs hf
    refine z_getF X hI (k := 37) (ci := 12) (gR_s ex5) i_Mod rfl (by decide) wf_Mod_108 d_Mod_set_238 ?_
    refine lv_iload_n hx hb d_Mod_set_241 rfl (lv_at hl 1 rfl) ?_
    obtain ⟨x6, ex6, hf⟩ := z_bs hf
    refine z_lald X hI ex6 d_Mod_set_242 ?_
    refine lv_ldc2 (v := (-1)) hx hb X.1.2.2.2.1 (z_w X wc_Mod_220) d_Mod_set_243 ?_
    refine lv_lxor hx hb d_Mod_set_246 ?_
    obtain ⟨h7, eh7, hf⟩ := z_bs hf
    refine z_last X hI eh7 d_Mod_set_247 (fun H locs hI => ?_)
    refine lv_aload_n hx hb d_Mod_set_248 rfl (lv_at hl 0 rfl) ?_
    obtain ⟨x8, ex8, hf⟩ := z_bs hf
    refine z_getF X hI (k := 38) (ci := 12) (gR_s ex8) i_Mod rfl (by decide) wf_Mod_112 d_Mod_set_249 ?_
    refine lv_iload_n hx hb d_Mod_set_252 rfl (lv_at hl 1 rfl) ?_
    refine lv_aload_n hx hb d_Mod_set_253 rfl (lv_at hl 0 rfl) ?_
    obtain ⟨x9, ex9, hf⟩ := z_bs hf
    refine z_getF X hI (k := 38) (ci := 12) (gR_s ex9) i_Mod rfl (by decide) wf_Mod_112 d_Mod_set_254 ?_
    refine lv_iload_n hx hb d_Mod_set_257 rfl (lv_at hl 1 rfl) ?_
    obtain ⟨x10, ex10, hf⟩ := z_bs hf
    refine z_lald X hI ex10 d_Mod_set_258 ?_
    refine lv_ldc2 (v := (-1)) hx hb X.1.2.2.2.1 (z_w X wc_Mod_220) d_Mod_set_259 ?_
    refine lv_lxor hx hb d_Mod_set_262 ?_
    obtain ⟨h11, eh11, hf⟩ := z_bs hf
    refine z_last X hI eh11 d_Mod_set_263 (fun H locs hI => ?_)
    cases hf
    exact z_vret X hI d_Mod_set_264
  · rw [if_pos c3] at hf
    cases hf
    exact z_vret X hI d_Mod_set_231
def f_Mod_set_78 (N : Nat)  : Nat → Nat → Int32 → Int32 → Int32 → z_H → Option z_H
  | 0, _, _, _, _, _ => none
  | n + 1, v0, v2, v3, v4, h =>
    z_b (gI h v0 12 48) fun x1 =>
    if x1 = 0 then
    (if v4 = 0 then
    (f_Mod_set_99 N (f_Mod_set_78 N  n) v0 v2 v3 h)
    else
    (z_b (gO h v0 12) fun u4 =>
    z_b (f_Mod_here N v0 h) fun r5 =>
    if (r5.1) = 93 then
    (f_Mod_set_217 N v0 v2 v3 r5.2)
    else
    (f_Mod_set_99 N (f_Mod_set_78 N  n) v0 v2 v3 r5.2)))
    else
    (f_Mod_set_217 N v0 v2 v3 h)
set_option maxRecDepth 20000 in
set_option maxHeartbeats 2000000 in
theorem s_Mod_set_78 (X : z_X p s m args meth c prog_14_method_21_code 8 none Ts "StreamForgeModel" D dA B) {N : Nat} {h' : z_H}   : ∀ n : Nat, ∀ (v0 : Nat) (v2 : Int32) (v3 : Int32) (v4 : Int32) (h : z_H) (H : Heap) (locs : List Loc) (ls : Array Slot), z_I D dA B h s.heap H locs → lv_has ls 8 [(0, .ref v0), (2, .int v2), (3, .int v3), (4, .int v4)] → f_Mod_set_78 N  n v0 v2 v3 v4 h = some h' → W p l e (z_rm 2 46) s m args below meth c H locs 0 0 (MQ below (z_Q D dA B none h') args s 0 0 (fun q => B ≤ q)) (F0 m 78 ls []) := by
  have hx := z_hx X
  have hb := z_hb X
  intro n
  induction n with
  | zero => intro v0 v2 v3 v4 h H locs ls hI hl hf; rw [f_Mod_set_78] at hf; cases hf
  | succ n ih =>
    intro v0 v2 v3 v4 h H locs ls hI hl hf
    rw [f_Mod_set_78] at hf
    refine lv_aload_n hx hb d_Mod_set_78 rfl (lv_at hl 0 rfl) ?_
    obtain ⟨x1, ex1, hf⟩ := z_bs hf
    refine z_getF X hI (k := 48) (ci := 12) (gI_s ex1) i_Mod rfl (by decide) wf_Mod_179 d_Mod_set_79 ?_
    refine lv_if_ne (tgt := 217) hx hb d_Mod_set_82 (by decide) (fun c2 => ?_) (fun c2 => ?_)
    · rw [if_neg c2] at hf
      exact s_Mod_set_217 X  v0 v2 v3 h _ _ _ hI (lv_sub hl [0, 1, 2] rfl) hf
    · rw [if_pos c2] at hf
      refine lv_iload hx hb d_Mod_set_85 (lv_at hl 3 rfl) ?_
      refine lv_if_eq (tgt := 99) hx hb d_Mod_set_87 (by decide) (fun c3 => ?_) (fun c3 => ?_)
      · rw [if_pos c3] at hf
        exact s_Mod_set_99 X ih v0 v2 v3 h _ _ _ hI (lv_sub hl [0, 1, 2] rfl) hf
      · rw [if_neg c3] at hf
        refine lv_aload_n hx hb d_Mod_set_90 rfl (lv_at hl 0 rfl) ?_
        obtain ⟨u4, eu4, hf⟩ := z_bs hf
        obtain ⟨r5, er5, hf⟩ := z_bs hf
        refine z_callV (As := []) (rest := []) (r := (some (.int r5.1))) (h' := r5.2) X hI eu4 (s_Mod_here er5) rfl rfl wm_Mod_183 yi_Mod_here rfl hl.1 rfl (Nat.le_of_ble_eq_true rfl) (by decide) (by decide) d_Mod_set_91 (fun H locs hI => ?_)
        refine W.eq (g2 := F0 m 94 ls [.int (r5.1)]) rfl ?_
        refine lv_bipush (v := 93) hx hb d_Mod_set_94 (by decide) ?_
        refine lv_icmp_eq (tgt := 217) hx hb d_Mod_set_96 (by decide) (fun c6 => ?_) (fun c6 => ?_)
        · rw [if_pos c6] at hf
          exact s_Mod_set_217 X  v0 v2 v3 r5.2 _ _ _ hI (lv_sub hl [0, 1, 2] rfl) hf
        · rw [if_neg c6] at hf
          exact s_Mod_set_99 X ih v0 v2 v3 r5.2 _ _ _ hI (lv_sub hl [0, 1, 2] rfl) hf
def f_Mod_set_60 (N : Nat)  (v0 : Nat) (v2 : Int32) (s0 : Int32) (h : z_H) : Option z_H :=
  if s0 = 0 then
  (f_Mod_set_78 N N v0 v2 s0 0 h)
  else
  (z_b (gI h v0 12 41) fun x2 =>
  z_b (sF h v0 12 41 (.int (x2 + 1))) fun h3 =>
  f_Mod_set_78 N N v0 v2 s0 0 h3)
set_option maxRecDepth 20000 in
set_option maxHeartbeats 2000000 in
theorem s_Mod_set_60 (X : z_X p s m args meth c prog_14_method_21_code 8 none Ts "StreamForgeModel" D dA B) {N : Nat} {h' : z_H}   : ∀ (v0 : Nat) (v2 : Int32) (s0 : Int32) (h : z_H) (H : Heap) (locs : List Loc) (ls : Array Slot), z_I D dA B h s.heap H locs → lv_has ls 8 [(0, .ref v0), (2, .int v2)] → f_Mod_set_60 N  v0 v2 s0 h = some h' → W p l e (z_rm 2 46) s m args below meth c H locs 0 0 (MQ below (z_Q D dA B none h') args s 0 0 (fun q => B ≤ q)) (F0 m 60 ls [.int s0]) := by
  have hx := z_hx X
  have hb := z_hb X
  intro v0 v2 s0 h H locs ls hI hl hf
  unfold f_Mod_set_60 at hf
  refine lv_istore_n (lv' := [(3, .int s0), (0, .ref v0), (2, .int v2)]) hx hb d_Mod_set_60 rfl hl (by decide) rfl (fun ls hl => ?_)
  refine lv_iconst (v := 0) hx hb d_Mod_set_61 (by decide) ?_
  refine lv_istore (lv' := [(4, .int 0), (3, .int s0), (0, .ref v0), (2, .int v2)]) hx hb d_Mod_set_62 hl (by decide) rfl (fun ls hl => ?_)
  refine lv_iload_n hx hb d_Mod_set_64 rfl (lv_at hl 1 rfl) ?_
  refine lv_if_eq (tgt := 78) hx hb d_Mod_set_65 (by decide) (fun c1 => ?_) (fun c1 => ?_)
  · rw [if_pos c1] at hf
    exact s_Mod_set_78 X  N v0 v2 s0 0 h _ _ _ hI (lv_sub hl [2, 3, 1, 0] rfl) hf
  · rw [if_neg c1] at hf
    refine lv_aload_n hx hb d_Mod_set_68 rfl (lv_at hl 2 rfl) ?_
    refine lv_dup hx hb d_Mod_set_69 rfl ?_
    obtain ⟨x2, ex2, hf⟩ := z_bs hf
    refine z_getF X hI (k := 41) (ci := 12) (gI_s ex2) i_Mod rfl (by decide) wf_Mod_176 d_Mod_set_70 ?_
    refine lv_iconst (v := 1) hx hb d_Mod_set_73 (by decide) ?_
    refine lv_iadd hx hb d_Mod_set_74 ?_
    obtain ⟨h3, eh3, hf⟩ := z_bs hf
    refine z_putF X hI (k := 41) (ci := 12) (ty0 := t_Mod) eh3 i_Mod t_Mod_ok n_Mod rfl (by decide) wf_Mod_176 rfl rfl rfl d_Mod_set_75 (fun H locs hI => ?_)
    exact s_Mod_set_78 X  N v0 v2 s0 0 h3 _ _ _ hI (lv_sub hl [2, 3, 1, 0] rfl) hf
def f_Mod_set (N : Nat) (v0 : Nat) (v1 : Int32) (h : z_H) : Option z_H :=
  z_b (gO h v0 12) fun u1 =>
  z_b (f_Mod_addItem N v0 2 0 v1 h) fun r2 =>
  z_b (gI r2 v0 12 48) fun x3 =>
  if x3 = 0 then
  (z_b (gI r2 v0 12 42) fun x5 =>
  z_b (gR r2 v0 12 26) fun x6 =>
  z_b (gI r2 v0 12 42) fun x7 =>
  z_b (aI r2 x6 0 x7) fun x8 =>
  z_b (some (((260 * x5) + x8) - 1)) fun x9 =>
  z_b (gI r2 v0 12 41) fun x10 =>
  z_b (sF r2 v0 12 41 (.int (x10 + 1))) fun h11 =>
  z_b (gO h11 v0 12) fun u12 =>
  z_b (f_Mod_here N v0 h11) fun r13 =>
  if (r13.1) = 94 then
  (f_Mod_set_60 N v0 x9 1 r13.2)
  else
  (f_Mod_set_60 N v0 x9 0 r13.2))
  else
  (some r2)
set_option maxRecDepth 20000 in
set_option maxHeartbeats 2000000 in
theorem s_Mod_set {l : Launch} {D : va_G} {dA : Nat → ClassId} {B N : Nat} {v0 : Nat} {v1 : Int32} {h h' : z_H} (hf : f_Mod_set N v0 v1 h = some h') : z_Met l y_Mod_set prog_14_method_21_code 8 none 2 46 D dA B [.ref v0, .int v1] h none h' := by
  refine z_of (by decide) (Nat.le_of_ble_eq_true rfl) (fun p e s m below meth c ls X hI hl => ?_)
  have hx := z_hx X
  have hb := z_hb X
  have hl : lv_has ls 8 [(0, .ref v0), (1, .int v1)] := hl
  unfold f_Mod_set at hf
  obtain ⟨locs, hlo⟩ : ∃ z : List Loc, z = [] := ⟨_, rfl⟩
  rw [← hlo] at hI ⊢
  refine lv_aload_n hx hb d_Mod_set_0 rfl (lv_at hl 0 rfl) ?_
  refine lv_iconst (v := 2) hx hb d_Mod_set_1 (by decide) ?_
  refine lv_iconst (v := 0) hx hb d_Mod_set_2 (by decide) ?_
  refine lv_iload_n hx hb d_Mod_set_3 rfl (lv_at hl 1 rfl) ?_
  obtain ⟨u1, eu1, hf⟩ := z_bs hf
  obtain ⟨r2, er2, hf⟩ := z_bs hf
  refine z_callV (As := [.int 2, .int 0, .int v1]) (rest := []) (r := none) (h' := r2) X hI eu1 (s_Mod_addItem er2) rfl rfl wm_Mod_209 yi_Mod_addItem rfl hl.1 rfl (Nat.le_of_ble_eq_true rfl) (by decide) (by decide) d_Mod_set_4 (fun H locs hI => ?_)
  refine W.eq (g2 := F0 m 7 ls []) rfl ?_
  refine lv_aload_n hx hb d_Mod_set_7 rfl (lv_at hl 0 rfl) ?_
  obtain ⟨x3, ex3, hf⟩ := z_bs hf
  refine z_getF X hI (k := 48) (ci := 12) (gI_s ex3) i_Mod rfl (by decide) wf_Mod_179 d_Mod_set_8 ?_
  refine lv_if_eq (tgt := 15) hx hb d_Mod_set_11 (by decide) (fun c4 => ?_) (fun c4 => ?_)
  · rw [if_pos c4] at hf
    refine lv_sipush (v := 260) hx hb d_Mod_set_15 (by decide) ?_
    refine lv_aload_n hx hb d_Mod_set_18 rfl (lv_at hl 0 rfl) ?_
    obtain ⟨x5, ex5, hf⟩ := z_bs hf
    refine z_getF X hI (k := 42) (ci := 12) (gI_s ex5) i_Mod rfl (by decide) wf_Mod_191 d_Mod_set_19 ?_
    refine lv_imul hx hb d_Mod_set_22 ?_
    refine lv_aload_n hx hb d_Mod_set_23 rfl (lv_at hl 0 rfl) ?_
    obtain ⟨x6, ex6, hf⟩ := z_bs hf
    refine z_getF X hI (k := 26) (ci := 12) (gR_s ex6) i_Mod rfl (by decide) wf_Mod_75 d_Mod_set_24 ?_
    refine lv_aload_n hx hb d_Mod_set_27 rfl (lv_at hl 0 rfl) ?_
    obtain ⟨x7, ex7, hf⟩ := z_bs hf
    refine z_getF X hI (k := 42) (ci := 12) (gI_s ex7) i_Mod rfl (by decide) wf_Mod_191 d_Mod_set_28 ?_
    obtain ⟨x8, ex8, hf⟩ := z_bs hf
    refine z_iald X hI ex8 d_Mod_set_31 ?_
    refine lv_iadd hx hb d_Mod_set_32 ?_
    refine lv_iconst (v := 1) hx hb d_Mod_set_33 (by decide) ?_
    refine lv_isub hx hb d_Mod_set_34 ?_
    obtain ⟨x9, ex9, hf⟩ := z_bs hf
    refine z_topi (Option.some.inj ex9) ?_
    refine lv_istore_n (lv' := [(2, .int x9), (0, .ref v0), (1, .int v1)]) hx hb d_Mod_set_35 rfl hl (by decide) rfl (fun ls hl => ?_)
    refine lv_aload_n hx hb d_Mod_set_36 rfl (lv_at hl 1 rfl) ?_
    refine lv_dup hx hb d_Mod_set_37 rfl ?_
    obtain ⟨x10, ex10, hf⟩ := z_bs hf
    refine z_getF X hI (k := 41) (ci := 12) (gI_s ex10) i_Mod rfl (by decide) wf_Mod_176 d_Mod_set_38 ?_
    refine lv_iconst (v := 1) hx hb d_Mod_set_41 (by decide) ?_
    refine lv_iadd hx hb d_Mod_set_42 ?_
    obtain ⟨h11, eh11, hf⟩ := z_bs hf
    refine z_putF X hI (k := 41) (ci := 12) (ty0 := t_Mod) eh11 i_Mod t_Mod_ok n_Mod rfl (by decide) wf_Mod_176 rfl rfl rfl d_Mod_set_43 (fun H locs hI => ?_)
    refine lv_aload_n hx hb d_Mod_set_46 rfl (lv_at hl 1 rfl) ?_
    obtain ⟨u12, eu12, hf⟩ := z_bs hf
    obtain ⟨r13, er13, hf⟩ := z_bs hf
    refine z_callV (As := []) (rest := []) (r := (some (.int r13.1))) (h' := r13.2) X hI eu12 (s_Mod_here er13) rfl rfl wm_Mod_183 yi_Mod_here rfl hl.1 rfl (Nat.le_of_ble_eq_true rfl) (by decide) (by decide) d_Mod_set_47 (fun H locs hI => ?_)
    refine W.eq (g2 := F0 m 50 ls [.int (r13.1)]) rfl ?_
    refine lv_bipush (v := 94) hx hb d_Mod_set_50 (by decide) ?_
    refine lv_icmp_ne (tgt := 59) hx hb d_Mod_set_52 (by decide) (fun c14 => ?_) (fun c14 => ?_)
    · rw [if_neg c14] at hf
      refine lv_iconst (v := 0) hx hb d_Mod_set_59 (by decide) ?_
      exact s_Mod_set_60 X  v0 x9 0 r13.2 _ _ _ hI (lv_sub hl [1, 0] rfl) hf
    · rw [if_pos c14] at hf
      refine lv_iconst (v := 1) hx hb d_Mod_set_55 (by decide) ?_
      refine lv_goto (tgt := 60) hx hb d_Mod_set_56 (by decide) ?_
      exact s_Mod_set_60 X  v0 x9 1 r13.2 _ _ _ hI (lv_sub hl [1, 0] rfl) hf
  · rw [if_neg c4] at hf
    cases hf
    exact z_vret X hI d_Mod_set_14
def f_Mod_star_15 (N : Nat)  (v0 : Nat) (h : z_H) : Option z_H :=
  z_b (gI h v0 12 41) fun x1 =>
  z_b (gO h v0 12) fun u2 =>
  z_b (f_Mod_wrong N v0 x1 h) fun r3 =>
  some r3
set_option maxRecDepth 20000 in
set_option maxHeartbeats 2000000 in
theorem s_Mod_star_15 (X : z_X p s m args meth c prog_14_method_22_code 1 none Ts "StreamForgeModel" D dA B) {N : Nat} {h' : z_H}   : ∀ (v0 : Nat) (h : z_H) (H : Heap) (locs : List Loc) (ls : Array Slot), z_I D dA B h s.heap H locs → lv_has ls 1 [(0, .ref v0)] → f_Mod_star_15 N  v0 h = some h' → W p l e (z_rm 1 21) s m args below meth c H locs 0 0 (MQ below (z_Q D dA B none h') args s 0 0 (fun q => B ≤ q)) (F0 m 15 ls []) := by
  have hx := z_hx X
  have hb := z_hb X
  intro v0 h H locs ls hI hl hf
  unfold f_Mod_star_15 at hf
  refine lv_aload_n hx hb d_Mod_star_15 rfl (lv_at hl 0 rfl) ?_
  refine lv_aload_n hx hb d_Mod_star_16 rfl (lv_at hl 0 rfl) ?_
  obtain ⟨x1, ex1, hf⟩ := z_bs hf
  refine z_getF X hI (k := 41) (ci := 12) (gI_s ex1) i_Mod rfl (by decide) wf_Mod_176 d_Mod_star_17 ?_
  obtain ⟨u2, eu2, hf⟩ := z_bs hf
  obtain ⟨r3, er3, hf⟩ := z_bs hf
  refine z_callV (As := [.int x1]) (rest := []) (r := none) (h' := r3) X hI eu2 (s_Mod_wrong er3) rfl rfl wm_Mod_187 yi_Mod_wrong rfl hl.1 rfl (Nat.le_of_ble_eq_true rfl) (by decide) (by decide) d_Mod_star_20 (fun H locs hI => ?_)
  refine W.eq (g2 := F0 m 23 ls []) rfl ?_
  cases hf
  exact z_vret X hI d_Mod_star_23
def f_Mod_star (N : Nat) (v0 : Nat) (h : z_H) : Option z_H :=
  z_b (gI h v0 12 50) fun x1 =>
  if x1 = 0 then
  (f_Mod_star_15 N v0 h)
  else
  (z_b (gI h v0 12 45) fun x3 =>
  if x3 = 2 then
  (f_Mod_star_15 N v0 h)
  else
  (z_b (gI h v0 12 45) fun x5 =>
  z_b (sF h v0 12 45 (.int (x5 + 1))) fun h6 =>
  z_b (sF h6 v0 12 50 (.int 0)) fun h7 =>
  z_b (gR h7 v0 12 34) fun x8 =>
  z_b (gI h7 v0 12 42) fun x9 =>
  z_b (gR h7 v0 12 26) fun x10 =>
  z_b (gI h7 v0 12 42) fun x11 =>
  z_b (aI h7 x10 0 x11) fun x12 =>
  z_b (uI h7 x8 3 (((260 * x9) + x12) - 1) (vp_nar .boolean 1)) fun h13 =>
  z_b (gI h13 v0 12 41) fun x14 =>
  z_b (sF h13 v0 12 41 (.int (x14 + 1))) fun h15 =>
  some h15))
set_option maxRecDepth 20000 in
set_option maxHeartbeats 2000000 in
theorem s_Mod_star {l : Launch} {D : va_G} {dA : Nat → ClassId} {B N : Nat} {v0 : Nat} {h h' : z_H} (hf : f_Mod_star N v0 h = some h') : z_Met l y_Mod_star prog_14_method_22_code 1 none 1 21 D dA B [.ref v0] h none h' := by
  refine z_of (by decide) (Nat.le_of_ble_eq_true rfl) (fun p e s m below meth c ls X hI hl => ?_)
  have hx := z_hx X
  have hb := z_hb X
  have hl : lv_has ls 1 [(0, .ref v0)] := hl
  unfold f_Mod_star at hf
  obtain ⟨locs, hlo⟩ : ∃ z : List Loc, z = [] := ⟨_, rfl⟩
  rw [← hlo] at hI ⊢
  refine lv_aload_n hx hb d_Mod_star_0 rfl (lv_at hl 0 rfl) ?_
  obtain ⟨x1, ex1, hf⟩ := z_bs hf
  refine z_getF X hI (k := 50) (ci := 12) (gI_s ex1) i_Mod rfl (by decide) wf_Mod_197 d_Mod_star_1 ?_
  refine lv_if_eq (tgt := 15) hx hb d_Mod_star_4 (by decide) (fun c2 => ?_) (fun c2 => ?_)
  · rw [if_pos c2] at hf
    exact s_Mod_star_15 X  v0 h _ _ _ hI (lv_sub hl [0] rfl) hf
  · rw [if_neg c2] at hf
    refine lv_aload_n hx hb d_Mod_star_7 rfl (lv_at hl 0 rfl) ?_
    obtain ⟨x3, ex3, hf⟩ := z_bs hf
    refine z_getF X hI (k := 45) (ci := 12) (gI_s ex3) i_Mod rfl (by decide) wf_Mod_222 d_Mod_star_8 ?_
    refine lv_iconst (v := 2) hx hb d_Mod_star_11 (by decide) ?_
    refine lv_icmp_ne (tgt := 24) hx hb d_Mod_star_12 (by decide) (fun c4 => ?_) (fun c4 => ?_)
    · rw [if_neg c4] at hf
      refine lv_aload_n hx hb d_Mod_star_24 rfl (lv_at hl 0 rfl) ?_
      refine lv_dup hx hb d_Mod_star_25 rfl ?_
      obtain ⟨x5, ex5, hf⟩ := z_bs hf
      refine z_getF X hI (k := 45) (ci := 12) (gI_s ex5) i_Mod rfl (by decide) wf_Mod_222 d_Mod_star_26 ?_
      refine lv_iconst (v := 1) hx hb d_Mod_star_29 (by decide) ?_
      refine lv_iadd hx hb d_Mod_star_30 ?_
      obtain ⟨h6, eh6, hf⟩ := z_bs hf
      refine z_putF X hI (k := 45) (ci := 12) (ty0 := t_Mod) eh6 i_Mod t_Mod_ok n_Mod rfl (by decide) wf_Mod_222 rfl rfl rfl d_Mod_star_31 (fun H locs hI => ?_)
      refine lv_aload_n hx hb d_Mod_star_34 rfl (lv_at hl 0 rfl) ?_
      refine lv_iconst (v := 0) hx hb d_Mod_star_35 (by decide) ?_
      obtain ⟨h7, eh7, hf⟩ := z_bs hf
      refine z_putF X hI (k := 50) (ci := 12) (ty0 := t_Mod) eh7 i_Mod t_Mod_ok n_Mod rfl (by decide) wf_Mod_197 rfl rfl rfl d_Mod_star_36 (fun H locs hI => ?_)
      refine lv_aload_n hx hb d_Mod_star_39 rfl (lv_at hl 0 rfl) ?_
      obtain ⟨x8, ex8, hf⟩ := z_bs hf
      refine z_getF X hI (k := 34) (ci := 12) (gR_s ex8) i_Mod rfl (by decide) wf_Mod_99 d_Mod_star_40 ?_
      refine lv_sipush (v := 260) hx hb d_Mod_star_43 (by decide) ?_
      refine lv_aload_n hx hb d_Mod_star_46 rfl (lv_at hl 0 rfl) ?_
      obtain ⟨x9, ex9, hf⟩ := z_bs hf
      refine z_getF X hI (k := 42) (ci := 12) (gI_s ex9) i_Mod rfl (by decide) wf_Mod_191 d_Mod_star_47 ?_
      refine lv_imul hx hb d_Mod_star_50 ?_
      refine lv_aload_n hx hb d_Mod_star_51 rfl (lv_at hl 0 rfl) ?_
      obtain ⟨x10, ex10, hf⟩ := z_bs hf
      refine z_getF X hI (k := 26) (ci := 12) (gR_s ex10) i_Mod rfl (by decide) wf_Mod_75 d_Mod_star_52 ?_
      refine lv_aload_n hx hb d_Mod_star_55 rfl (lv_at hl 0 rfl) ?_
      obtain ⟨x11, ex11, hf⟩ := z_bs hf
      refine z_getF X hI (k := 42) (ci := 12) (gI_s ex11) i_Mod rfl (by decide) wf_Mod_191 d_Mod_star_56 ?_
      obtain ⟨x12, ex12, hf⟩ := z_bs hf
      refine z_iald X hI ex12 d_Mod_star_59 ?_
      refine lv_iadd hx hb d_Mod_star_60 ?_
      refine lv_iconst (v := 1) hx hb d_Mod_star_61 (by decide) ?_
      refine lv_isub hx hb d_Mod_star_62 ?_
      refine lv_iconst (v := 1) hx hb d_Mod_star_63 (by decide) ?_
      obtain ⟨h13, eh13, hf⟩ := z_bs hf
      refine z_zast X hI eh13 d_Mod_star_64 (fun H locs hI => ?_)
      refine lv_aload_n hx hb d_Mod_star_65 rfl (lv_at hl 0 rfl) ?_
      refine lv_dup hx hb d_Mod_star_66 rfl ?_
      obtain ⟨x14, ex14, hf⟩ := z_bs hf
      refine z_getF X hI (k := 41) (ci := 12) (gI_s ex14) i_Mod rfl (by decide) wf_Mod_176 d_Mod_star_67 ?_
      refine lv_iconst (v := 1) hx hb d_Mod_star_70 (by decide) ?_
      refine lv_iadd hx hb d_Mod_star_71 ?_
      obtain ⟨h15, eh15, hf⟩ := z_bs hf
      refine z_putF X hI (k := 41) (ci := 12) (ty0 := t_Mod) eh15 i_Mod t_Mod_ok n_Mod rfl (by decide) wf_Mod_176 rfl rfl rfl d_Mod_star_72 (fun H locs hI => ?_)
      cases hf
      exact z_vret X hI d_Mod_star_75
    · rw [if_pos c4] at hf
      exact s_Mod_star_15 X  v0 h _ _ _ hI (lv_sub hl [0] rfl) hf
def f_Mod_readPattern_296 (N : Nat) (k114 : Nat → Int32 → z_H → Option (Int32 × z_H)) (v0 : Nat) (v1 : Int32) (v2 : Int32) (s0 : Nat) (s1 : Int32) (h : z_H) : Option (Int32 × z_H) :=
  z_b (gI h v0 12 41) fun x1 =>
  z_b (gO h s0 12) fun u2 =>
  z_b (f_Mod_addItem N s0 s1 v2 x1 h) fun r3 =>
  z_b (gI r3 v0 12 41) fun x4 =>
  z_b (sF r3 v0 12 41 (.int (x4 + 1))) fun h5 =>
  k114 v0 v1 h5
set_option maxRecDepth 20000 in
set_option maxHeartbeats 2000000 in
theorem s_Mod_readPattern_296 (X : z_X p s m args meth c prog_14_method_23_code 3 (some .int) Ts "StreamForgeModel" D dA B) {N : Nat} {r : Int32} {h' : z_H} {k114 : Nat → Int32 → z_H → Option (Int32 × z_H)} (hk114 : ∀ (v0 : Nat) (v1 : Int32) (h : z_H) (H : Heap) (locs : List Loc) (ls : Array Slot), z_I D dA B h s.heap H locs → lv_has ls 3 [(0, .ref v0), (1, .int v1)] → k114 v0 v1 h = some (r, h') → W p l e (z_rm 3 73) s m args below meth c H locs 0 0 (MQ below (z_Q D dA B (some (.int r)) h') args s 0 0 (fun q => B ≤ q)) (F0 m 114 ls [])) : ∀ (v0 : Nat) (v1 : Int32) (v2 : Int32) (s0 : Nat) (s1 : Int32) (h : z_H) (H : Heap) (locs : List Loc) (ls : Array Slot), z_I D dA B h s.heap H locs → lv_has ls 3 [(0, .ref v0), (1, .int v1), (2, .int v2)] → f_Mod_readPattern_296 N k114 v0 v1 v2 s0 s1 h = some (r, h') → W p l e (z_rm 3 73) s m args below meth c H locs 0 0 (MQ below (z_Q D dA B (some (.int r)) h') args s 0 0 (fun q => B ≤ q)) (F0 m 296 ls [.int s1, .ref s0]) := by
  have hx := z_hx X
  have hb := z_hb X
  intro v0 v1 v2 s0 s1 h H locs ls hI hl hf
  unfold f_Mod_readPattern_296 at hf
  refine lv_iload_n hx hb d_Mod_readPattern_296 rfl (lv_at hl 2 rfl) ?_
  refine lv_aload_n hx hb d_Mod_readPattern_297 rfl (lv_at hl 0 rfl) ?_
  obtain ⟨x1, ex1, hf⟩ := z_bs hf
  refine z_getF X hI (k := 41) (ci := 12) (gI_s ex1) i_Mod rfl (by decide) wf_Mod_176 d_Mod_readPattern_298 ?_
  obtain ⟨u2, eu2, hf⟩ := z_bs hf
  obtain ⟨r3, er3, hf⟩ := z_bs hf
  refine z_callV (As := [.int s1, .int v2, .int x1]) (rest := []) (r := none) (h' := r3) X hI eu2 (s_Mod_addItem er3) rfl rfl wm_Mod_209 yi_Mod_addItem rfl hl.1 rfl (Nat.le_of_ble_eq_true rfl) (by decide) (by decide) d_Mod_readPattern_301 (fun H locs hI => ?_)
  refine W.eq (g2 := F0 m 304 ls []) rfl ?_
  refine lv_aload_n hx hb d_Mod_readPattern_304 rfl (lv_at hl 0 rfl) ?_
  refine lv_dup hx hb d_Mod_readPattern_305 rfl ?_
  obtain ⟨x4, ex4, hf⟩ := z_bs hf
  refine z_getF X hI (k := 41) (ci := 12) (gI_s ex4) i_Mod rfl (by decide) wf_Mod_176 d_Mod_readPattern_306 ?_
  refine lv_iconst (v := 1) hx hb d_Mod_readPattern_309 (by decide) ?_
  refine lv_iadd hx hb d_Mod_readPattern_310 ?_
  obtain ⟨h5, eh5, hf⟩ := z_bs hf
  refine z_putF X hI (k := 41) (ci := 12) (ty0 := t_Mod) eh5 i_Mod t_Mod_ok n_Mod rfl (by decide) wf_Mod_176 rfl rfl rfl d_Mod_readPattern_311 (fun H locs hI => ?_)
  refine lv_goto (tgt := 114) hx hb d_Mod_readPattern_314 (by decide) ?_
  exact hk114 v0 v1 h5 _ _ _ hI (lv_sub hl [0, 1] rfl) hf
def f_Mod_readPattern_237 (N : Nat) (k114 : Nat → Int32 → z_H → Option (Int32 × z_H)) (v0 : Nat) (v1 : Int32) (v2 : Int32) (h : z_H) : Option (Int32 × z_H) :=
  if v2 = 92 then
  (z_b (gI h v0 12 41) fun x10 =>
  z_b (gO h v0 12) fun u11 =>
  z_b (f_Mod_escaped N v0 x10 h) fun r12 =>
  k114 v0 v1 r12)
  else
  (if v2 = 91 then
  (z_b (gI h v0 12 41) fun x7 =>
  z_b (gO h v0 12) fun u8 =>
  z_b (f_Mod_set N v0 x7 h) fun r9 =>
  k114 v0 v1 r9)
  else
  (if v2 = 42 then
  (z_b (gO h v0 12) fun u5 =>
  z_b (f_Mod_star N v0 h) fun r6 =>
  k114 v0 v1 r6)
  else
  (if v2 = 46 then
  (f_Mod_readPattern_296 N k114 v0 v1 v2 v0 1 h)
  else
  (f_Mod_readPattern_296 N k114 v0 v1 v2 v0 0 h))))
set_option maxRecDepth 20000 in
set_option maxHeartbeats 2000000 in
theorem s_Mod_readPattern_237 (X : z_X p s m args meth c prog_14_method_23_code 3 (some .int) Ts "StreamForgeModel" D dA B) {N : Nat} {r : Int32} {h' : z_H} {k114 : Nat → Int32 → z_H → Option (Int32 × z_H)} (hk114 : ∀ (v0 : Nat) (v1 : Int32) (h : z_H) (H : Heap) (locs : List Loc) (ls : Array Slot), z_I D dA B h s.heap H locs → lv_has ls 3 [(0, .ref v0), (1, .int v1)] → k114 v0 v1 h = some (r, h') → W p l e (z_rm 3 73) s m args below meth c H locs 0 0 (MQ below (z_Q D dA B (some (.int r)) h') args s 0 0 (fun q => B ≤ q)) (F0 m 114 ls [])) : ∀ (v0 : Nat) (v1 : Int32) (v2 : Int32) (h : z_H) (H : Heap) (locs : List Loc) (ls : Array Slot), z_I D dA B h s.heap H locs → lv_has ls 3 [(0, .ref v0), (1, .int v1), (2, .int v2)] → f_Mod_readPattern_237 N k114 v0 v1 v2 h = some (r, h') → W p l e (z_rm 3 73) s m args below meth c H locs 0 0 (MQ below (z_Q D dA B (some (.int r)) h') args s 0 0 (fun q => B ≤ q)) (F0 m 237 ls []) := by
  have hx := z_hx X
  have hb := z_hb X
  intro v0 v1 v2 h H locs ls hI hl hf
  unfold f_Mod_readPattern_237 at hf
  refine lv_iload_n hx hb d_Mod_readPattern_237 rfl (lv_at hl 2 rfl) ?_
  refine lv_bipush (v := 92) hx hb d_Mod_readPattern_238 (by decide) ?_
  refine lv_icmp_ne (tgt := 254) hx hb d_Mod_readPattern_240 (by decide) (fun c1 => ?_) (fun c1 => ?_)
  · rw [if_neg c1] at hf
    refine lv_iload_n hx hb d_Mod_readPattern_254 rfl (lv_at hl 2 rfl) ?_
    refine lv_bipush (v := 91) hx hb d_Mod_readPattern_255 (by decide) ?_
    refine lv_icmp_ne (tgt := 271) hx hb d_Mod_readPattern_257 (by decide) (fun c2 => ?_) (fun c2 => ?_)
    · rw [if_neg c2] at hf
      refine lv_iload_n hx hb d_Mod_readPattern_271 rfl (lv_at hl 2 rfl) ?_
      refine lv_bipush (v := 42) hx hb d_Mod_readPattern_272 (by decide) ?_
      refine lv_icmp_ne (tgt := 284) hx hb d_Mod_readPattern_274 (by decide) (fun c3 => ?_) (fun c3 => ?_)
      · rw [if_neg c3] at hf
        refine lv_aload_n hx hb d_Mod_readPattern_284 rfl (lv_at hl 0 rfl) ?_
        refine lv_iload_n hx hb d_Mod_readPattern_285 rfl (lv_at hl 2 rfl) ?_
        refine lv_bipush (v := 46) hx hb d_Mod_readPattern_286 (by decide) ?_
        refine lv_icmp_ne (tgt := 295) hx hb d_Mod_readPattern_288 (by decide) (fun c4 => ?_) (fun c4 => ?_)
        · rw [if_neg c4] at hf
          refine lv_iconst (v := 0) hx hb d_Mod_readPattern_295 (by decide) ?_
          exact s_Mod_readPattern_296 X hk114 v0 v1 v2 v0 0 h _ _ _ hI (lv_sub hl [0, 1, 2] rfl) hf
        · rw [if_pos c4] at hf
          refine lv_iconst (v := 1) hx hb d_Mod_readPattern_291 (by decide) ?_
          refine lv_goto (tgt := 296) hx hb d_Mod_readPattern_292 (by decide) ?_
          exact s_Mod_readPattern_296 X hk114 v0 v1 v2 v0 1 h _ _ _ hI (lv_sub hl [0, 1, 2] rfl) hf
      · rw [if_pos c3] at hf
        refine lv_aload_n hx hb d_Mod_readPattern_277 rfl (lv_at hl 0 rfl) ?_
        obtain ⟨u5, eu5, hf⟩ := z_bs hf
        obtain ⟨r6, er6, hf⟩ := z_bs hf
        refine z_callV (As := []) (rest := []) (r := none) (h' := r6) X hI eu5 (s_Mod_star er6) rfl rfl wm_Mod_231 yi_Mod_star rfl hl.1 rfl (Nat.le_of_ble_eq_true rfl) (by decide) (by decide) d_Mod_readPattern_278 (fun H locs hI => ?_)
        refine W.eq (g2 := F0 m 281 ls []) rfl ?_
        refine lv_goto (tgt := 314) hx hb d_Mod_readPattern_281 (by decide) ?_
        refine lv_goto (tgt := 114) hx hb d_Mod_readPattern_314 (by decide) ?_
        exact hk114 v0 v1 r6 _ _ _ hI (lv_sub hl [0, 1] rfl) hf
    · rw [if_pos c2] at hf
      refine lv_aload_n hx hb d_Mod_readPattern_260 rfl (lv_at hl 0 rfl) ?_
      refine lv_aload_n hx hb d_Mod_readPattern_261 rfl (lv_at hl 0 rfl) ?_
      obtain ⟨x7, ex7, hf⟩ := z_bs hf
      refine z_getF X hI (k := 41) (ci := 12) (gI_s ex7) i_Mod rfl (by decide) wf_Mod_176 d_Mod_readPattern_262 ?_
      obtain ⟨u8, eu8, hf⟩ := z_bs hf
      obtain ⟨r9, er9, hf⟩ := z_bs hf
      refine z_callV (As := [.int x7]) (rest := []) (r := none) (h' := r9) X hI eu8 (s_Mod_set er9) rfl rfl wm_Mod_228 yi_Mod_set rfl hl.1 rfl (Nat.le_of_ble_eq_true rfl) (by decide) (by decide) d_Mod_readPattern_265 (fun H locs hI => ?_)
      refine W.eq (g2 := F0 m 268 ls []) rfl ?_
      refine lv_goto (tgt := 314) hx hb d_Mod_readPattern_268 (by decide) ?_
      refine lv_goto (tgt := 114) hx hb d_Mod_readPattern_314 (by decide) ?_
      exact hk114 v0 v1 r9 _ _ _ hI (lv_sub hl [0, 1] rfl) hf
  · rw [if_pos c1] at hf
    refine lv_aload_n hx hb d_Mod_readPattern_243 rfl (lv_at hl 0 rfl) ?_
    refine lv_aload_n hx hb d_Mod_readPattern_244 rfl (lv_at hl 0 rfl) ?_
    obtain ⟨x10, ex10, hf⟩ := z_bs hf
    refine z_getF X hI (k := 41) (ci := 12) (gI_s ex10) i_Mod rfl (by decide) wf_Mod_176 d_Mod_readPattern_245 ?_
    obtain ⟨u11, eu11, hf⟩ := z_bs hf
    obtain ⟨r12, er12, hf⟩ := z_bs hf
    refine z_callV (As := [.int x10]) (rest := []) (r := none) (h' := r12) X hI eu11 (s_Mod_escaped er12) rfl rfl wm_Mod_225 yi_Mod_escaped rfl hl.1 rfl (Nat.le_of_ble_eq_true rfl) (by decide) (by decide) d_Mod_readPattern_248 (fun H locs hI => ?_)
    refine W.eq (g2 := F0 m 251 ls []) rfl ?_
    refine lv_goto (tgt := 314) hx hb d_Mod_readPattern_251 (by decide) ?_
    refine lv_goto (tgt := 114) hx hb d_Mod_readPattern_314 (by decide) ?_
    exact hk114 v0 v1 r12 _ _ _ hI (lv_sub hl [0, 1] rfl) hf
def f_Mod_readPattern_202 (N : Nat) (k114 : Nat → Int32 → z_H → Option (Int32 × z_H)) (v0 : Nat) (v1 : Int32) (v2 : Int32) (h : z_H) : Option (Int32 × z_H) :=
  if v2 = 36 then
  (z_b (gO h v0 12) fun u2 =>
  z_b (f_Mod_behind N v0 h) fun r3 =>
  if (r3.1) = 47 then
  (z_b (gR r3.2 v0 12 36) fun x5 =>
  z_b (uI r3.2 x5 3 v1 (vp_nar .boolean 1)) fun h6 =>
  z_b (gI h6 v0 12 41) fun x7 =>
  z_b (sF h6 v0 12 41 (.int (x7 + 1))) fun h8 =>
  k114 v0 v1 h8)
  else
  (f_Mod_readPattern_237 N k114 v0 v1 v2 r3.2))
  else
  (f_Mod_readPattern_237 N k114 v0 v1 v2 h)
set_option maxRecDepth 20000 in
set_option maxHeartbeats 2000000 in
theorem s_Mod_readPattern_202 (X : z_X p s m args meth c prog_14_method_23_code 3 (some .int) Ts "StreamForgeModel" D dA B) {N : Nat} {r : Int32} {h' : z_H} {k114 : Nat → Int32 → z_H → Option (Int32 × z_H)} (hk114 : ∀ (v0 : Nat) (v1 : Int32) (h : z_H) (H : Heap) (locs : List Loc) (ls : Array Slot), z_I D dA B h s.heap H locs → lv_has ls 3 [(0, .ref v0), (1, .int v1)] → k114 v0 v1 h = some (r, h') → W p l e (z_rm 3 73) s m args below meth c H locs 0 0 (MQ below (z_Q D dA B (some (.int r)) h') args s 0 0 (fun q => B ≤ q)) (F0 m 114 ls [])) : ∀ (v0 : Nat) (v1 : Int32) (v2 : Int32) (h : z_H) (H : Heap) (locs : List Loc) (ls : Array Slot), z_I D dA B h s.heap H locs → lv_has ls 3 [(0, .ref v0), (1, .int v1), (2, .int v2)] → f_Mod_readPattern_202 N k114 v0 v1 v2 h = some (r, h') → W p l e (z_rm 3 73) s m args below meth c H locs 0 0 (MQ below (z_Q D dA B (some (.int r)) h') args s 0 0 (fun q => B ≤ q)) (F0 m 202 ls []) := by
  have hx := z_hx X
  have hb := z_hb X
  intro v0 v1 v2 h H locs ls hI hl hf
  unfold f_Mod_readPattern_202 at hf
  refine lv_iload_n hx hb d_Mod_readPattern_202 rfl (lv_at hl 2 rfl) ?_
  refine lv_bipush (v := 36) hx hb d_Mod_readPattern_203 (by decide) ?_
  refine lv_icmp_ne (tgt := 237) hx hb d_Mod_readPattern_205 (by decide) (fun c1 => ?_) (fun c1 => ?_)
  · rw [if_neg c1] at hf
    exact s_Mod_readPattern_237 X hk114 v0 v1 v2 h _ _ _ hI (lv_sub hl [0, 1, 2] rfl) hf
  · rw [if_pos c1] at hf
    refine lv_aload_n hx hb d_Mod_readPattern_208 rfl (lv_at hl 0 rfl) ?_
    obtain ⟨u2, eu2, hf⟩ := z_bs hf
    obtain ⟨r3, er3, hf⟩ := z_bs hf
    refine z_callV (As := []) (rest := []) (r := (some (.int r3.1))) (h' := r3.2) X hI eu2 (s_Mod_behind er3) rfl rfl wm_Mod_200 yi_Mod_behind rfl hl.1 rfl (Nat.le_of_ble_eq_true rfl) (by decide) (by decide) d_Mod_readPattern_209 (fun H locs hI => ?_)
    refine W.eq (g2 := F0 m 212 ls [.int (r3.1)]) rfl ?_
    refine lv_bipush (v := 47) hx hb d_Mod_readPattern_212 (by decide) ?_
    refine lv_icmp_ne (tgt := 237) hx hb d_Mod_readPattern_214 (by decide) (fun c4 => ?_) (fun c4 => ?_)
    · rw [if_neg c4] at hf
      exact s_Mod_readPattern_237 X hk114 v0 v1 v2 r3.2 _ _ _ hI (lv_sub hl [0, 1, 2] rfl) hf
    · rw [if_pos c4] at hf
      refine lv_aload_n hx hb d_Mod_readPattern_217 rfl (lv_at hl 0 rfl) ?_
      obtain ⟨x5, ex5, hf⟩ := z_bs hf
      refine z_getF X hI (k := 36) (ci := 12) (gR_s ex5) i_Mod rfl (by decide) wf_Mod_105 d_Mod_readPattern_218 ?_
      refine lv_iload_n hx hb d_Mod_readPattern_221 rfl (lv_at hl 1 rfl) ?_
      refine lv_iconst (v := 1) hx hb d_Mod_readPattern_222 (by decide) ?_
      obtain ⟨h6, eh6, hf⟩ := z_bs hf
      refine z_zast X hI eh6 d_Mod_readPattern_223 (fun H locs hI => ?_)
      refine lv_aload_n hx hb d_Mod_readPattern_224 rfl (lv_at hl 0 rfl) ?_
      refine lv_dup hx hb d_Mod_readPattern_225 rfl ?_
      obtain ⟨x7, ex7, hf⟩ := z_bs hf
      refine z_getF X hI (k := 41) (ci := 12) (gI_s ex7) i_Mod rfl (by decide) wf_Mod_176 d_Mod_readPattern_226 ?_
      refine lv_iconst (v := 1) hx hb d_Mod_readPattern_229 (by decide) ?_
      refine lv_iadd hx hb d_Mod_readPattern_230 ?_
      obtain ⟨h8, eh8, hf⟩ := z_bs hf
      refine z_putF X hI (k := 41) (ci := 12) (ty0 := t_Mod) eh8 i_Mod t_Mod_ok n_Mod rfl (by decide) wf_Mod_176 rfl rfl rfl d_Mod_readPattern_231 (fun H locs hI => ?_)
      refine lv_goto (tgt := 314) hx hb d_Mod_readPattern_234 (by decide) ?_
      refine lv_goto (tgt := 114) hx hb d_Mod_readPattern_314 (by decide) ?_
      exact hk114 v0 v1 h8 _ _ _ hI (lv_sub hl [0, 1] rfl) hf
def f_Mod_readPattern_339 (N : Nat)  (v0 : Nat) (v1 : Int32) (h : z_H) : Option (Int32 × z_H) :=
  z_b (gI h v0 12 41) fun x1 =>
  z_b (sF h v0 12 41 (.int (x1 + 1))) fun h2 =>
  z_b (gR h2 v0 12 29) fun x3 =>
  z_b (gI h2 v0 12 42) fun x4 =>
  z_b (gR h2 v0 12 26) fun x5 =>
  z_b (gI h2 v0 12 42) fun x6 =>
  z_b (aI h2 x5 0 x6) fun x7 =>
  z_b (uI h2 x3 0 v1 ((260 * x4) + x7)) fun h8 =>
  z_b (gR h8 v0 12 30) fun x9 =>
  z_b (gI h8 v0 12 44) fun x10 =>
  z_b (uI h8 x9 0 v1 x10) fun h11 =>
  z_b (gR h11 v0 12 25) fun x12 =>
  z_b (gI h11 v0 12 42) fun x13 =>
  z_b (aI h11 x12 0 x13) fun x14 =>
  z_b (uI h11 x12 0 x13 (x14 + 1)) fun h15 =>
  some (v1, h15)
set_option maxRecDepth 20000 in
set_option maxHeartbeats 2000000 in
theorem s_Mod_readPattern_339 (X : z_X p s m args meth c prog_14_method_23_code 3 (some .int) Ts "StreamForgeModel" D dA B) {N : Nat} {r : Int32} {h' : z_H}   : ∀ (v0 : Nat) (v1 : Int32) (h : z_H) (H : Heap) (locs : List Loc) (ls : Array Slot), z_I D dA B h s.heap H locs → lv_has ls 3 [(0, .ref v0), (1, .int v1)] → f_Mod_readPattern_339 N  v0 v1 h = some (r, h') → W p l e (z_rm 3 73) s m args below meth c H locs 0 0 (MQ below (z_Q D dA B (some (.int r)) h') args s 0 0 (fun q => B ≤ q)) (F0 m 339 ls []) := by
  have hx := z_hx X
  have hb := z_hb X
  intro v0 v1 h H locs ls hI hl hf
  unfold f_Mod_readPattern_339 at hf
  refine lv_aload_n hx hb d_Mod_readPattern_339 rfl (lv_at hl 0 rfl) ?_
  refine lv_dup hx hb d_Mod_readPattern_340 rfl ?_
  obtain ⟨x1, ex1, hf⟩ := z_bs hf
  refine z_getF X hI (k := 41) (ci := 12) (gI_s ex1) i_Mod rfl (by decide) wf_Mod_176 d_Mod_readPattern_341 ?_
  refine lv_iconst (v := 1) hx hb d_Mod_readPattern_344 (by decide) ?_
  refine lv_iadd hx hb d_Mod_readPattern_345 ?_
  obtain ⟨h2, eh2, hf⟩ := z_bs hf
  refine z_putF X hI (k := 41) (ci := 12) (ty0 := t_Mod) eh2 i_Mod t_Mod_ok n_Mod rfl (by decide) wf_Mod_176 rfl rfl rfl d_Mod_readPattern_346 (fun H locs hI => ?_)
  refine lv_aload_n hx hb d_Mod_readPattern_349 rfl (lv_at hl 0 rfl) ?_
  obtain ⟨x3, ex3, hf⟩ := z_bs hf
  refine z_getF X hI (k := 29) (ci := 12) (gR_s ex3) i_Mod rfl (by decide) wf_Mod_84 d_Mod_readPattern_350 ?_
  refine lv_iload_n hx hb d_Mod_readPattern_353 rfl (lv_at hl 1 rfl) ?_
  refine lv_sipush (v := 260) hx hb d_Mod_readPattern_354 (by decide) ?_
  refine lv_aload_n hx hb d_Mod_readPattern_357 rfl (lv_at hl 0 rfl) ?_
  obtain ⟨x4, ex4, hf⟩ := z_bs hf
  refine z_getF X hI (k := 42) (ci := 12) (gI_s ex4) i_Mod rfl (by decide) wf_Mod_191 d_Mod_readPattern_358 ?_
  refine lv_imul hx hb d_Mod_readPattern_361 ?_
  refine lv_aload_n hx hb d_Mod_readPattern_362 rfl (lv_at hl 0 rfl) ?_
  obtain ⟨x5, ex5, hf⟩ := z_bs hf
  refine z_getF X hI (k := 26) (ci := 12) (gR_s ex5) i_Mod rfl (by decide) wf_Mod_75 d_Mod_readPattern_363 ?_
  refine lv_aload_n hx hb d_Mod_readPattern_366 rfl (lv_at hl 0 rfl) ?_
  obtain ⟨x6, ex6, hf⟩ := z_bs hf
  refine z_getF X hI (k := 42) (ci := 12) (gI_s ex6) i_Mod rfl (by decide) wf_Mod_191 d_Mod_readPattern_367 ?_
  obtain ⟨x7, ex7, hf⟩ := z_bs hf
  refine z_iald X hI ex7 d_Mod_readPattern_370 ?_
  refine lv_iadd hx hb d_Mod_readPattern_371 ?_
  obtain ⟨h8, eh8, hf⟩ := z_bs hf
  refine z_iast X hI eh8 d_Mod_readPattern_372 (fun H locs hI => ?_)
  refine lv_aload_n hx hb d_Mod_readPattern_373 rfl (lv_at hl 0 rfl) ?_
  obtain ⟨x9, ex9, hf⟩ := z_bs hf
  refine z_getF X hI (k := 30) (ci := 12) (gR_s ex9) i_Mod rfl (by decide) wf_Mod_87 d_Mod_readPattern_374 ?_
  refine lv_iload_n hx hb d_Mod_readPattern_377 rfl (lv_at hl 1 rfl) ?_
  refine lv_aload_n hx hb d_Mod_readPattern_378 rfl (lv_at hl 0 rfl) ?_
  obtain ⟨x10, ex10, hf⟩ := z_bs hf
  refine z_getF X hI (k := 44) (ci := 12) (gI_s ex10) i_Mod rfl (by decide) wf_Mod_206 d_Mod_readPattern_379 ?_
  obtain ⟨h11, eh11, hf⟩ := z_bs hf
  refine z_iast X hI eh11 d_Mod_readPattern_382 (fun H locs hI => ?_)
  refine lv_aload_n hx hb d_Mod_readPattern_383 rfl (lv_at hl 0 rfl) ?_
  obtain ⟨x12, ex12, hf⟩ := z_bs hf
  refine z_getF X hI (k := 25) (ci := 12) (gR_s ex12) i_Mod rfl (by decide) wf_Mod_72 d_Mod_readPattern_384 ?_
  refine lv_aload_n hx hb d_Mod_readPattern_387 rfl (lv_at hl 0 rfl) ?_
  obtain ⟨x13, ex13, hf⟩ := z_bs hf
  refine z_getF X hI (k := 42) (ci := 12) (gI_s ex13) i_Mod rfl (by decide) wf_Mod_191 d_Mod_readPattern_388 ?_
  refine lv_dup2_11 hx hb d_Mod_readPattern_391 rfl rfl ?_
  obtain ⟨x14, ex14, hf⟩ := z_bs hf
  refine z_iald X hI ex14 d_Mod_readPattern_392 ?_
  refine lv_iconst (v := 1) hx hb d_Mod_readPattern_393 (by decide) ?_
  refine lv_iadd hx hb d_Mod_readPattern_394 ?_
  obtain ⟨h15, eh15, hf⟩ := z_bs hf
  refine z_iast X hI eh15 d_Mod_readPattern_395 (fun H locs hI => ?_)
  refine lv_iload_n hx hb d_Mod_readPattern_396 rfl (lv_at hl 1 rfl) ?_
  cases hf
  exact z_iret X hI d_Mod_readPattern_397
def f_Mod_readPattern_317 (N : Nat)  (v0 : Nat) (v1 : Int32) (h : z_H) : Option (Int32 × z_H) :=
  z_b (gI h v0 12 48) fun x1 =>
  if x1 = 0 then
  (z_b (gI h v0 12 49) fun x3 =>
  if x3 = 0 then
  (f_Mod_readPattern_339 N v0 v1 h)
  else
  (z_b (gI h v0 12 41) fun x5 =>
  z_b (gO h v0 12) fun u6 =>
  z_b (f_Mod_wrong N v0 x5 h) fun r7 =>
  f_Mod_readPattern_339 N v0 v1 r7))
  else
  (f_Mod_readPattern_339 N v0 v1 h)
set_option maxRecDepth 20000 in
set_option maxHeartbeats 2000000 in
theorem s_Mod_readPattern_317 (X : z_X p s m args meth c prog_14_method_23_code 3 (some .int) Ts "StreamForgeModel" D dA B) {N : Nat} {r : Int32} {h' : z_H}   : ∀ (v0 : Nat) (v1 : Int32) (h : z_H) (H : Heap) (locs : List Loc) (ls : Array Slot), z_I D dA B h s.heap H locs → lv_has ls 3 [(0, .ref v0), (1, .int v1)] → f_Mod_readPattern_317 N  v0 v1 h = some (r, h') → W p l e (z_rm 3 73) s m args below meth c H locs 0 0 (MQ below (z_Q D dA B (some (.int r)) h') args s 0 0 (fun q => B ≤ q)) (F0 m 317 ls []) := by
  have hx := z_hx X
  have hb := z_hb X
  intro v0 v1 h H locs ls hI hl hf
  unfold f_Mod_readPattern_317 at hf
  refine lv_aload_n hx hb d_Mod_readPattern_317 rfl (lv_at hl 0 rfl) ?_
  obtain ⟨x1, ex1, hf⟩ := z_bs hf
  refine z_getF X hI (k := 48) (ci := 12) (gI_s ex1) i_Mod rfl (by decide) wf_Mod_179 d_Mod_readPattern_318 ?_
  refine lv_if_ne (tgt := 339) hx hb d_Mod_readPattern_321 (by decide) (fun c2 => ?_) (fun c2 => ?_)
  · rw [if_neg c2] at hf
    exact s_Mod_readPattern_339 X  v0 v1 h _ _ _ hI (lv_sub hl [0, 1] rfl) hf
  · rw [if_pos c2] at hf
    refine lv_aload_n hx hb d_Mod_readPattern_324 rfl (lv_at hl 0 rfl) ?_
    obtain ⟨x3, ex3, hf⟩ := z_bs hf
    refine z_getF X hI (k := 49) (ci := 12) (gI_s ex3) i_Mod rfl (by decide) wf_Mod_203 d_Mod_readPattern_325 ?_
    refine lv_if_eq (tgt := 339) hx hb d_Mod_readPattern_328 (by decide) (fun c4 => ?_) (fun c4 => ?_)
    · rw [if_pos c4] at hf
      exact s_Mod_readPattern_339 X  v0 v1 h _ _ _ hI (lv_sub hl [0, 1] rfl) hf
    · rw [if_neg c4] at hf
      refine lv_aload_n hx hb d_Mod_readPattern_331 rfl (lv_at hl 0 rfl) ?_
      refine lv_aload_n hx hb d_Mod_readPattern_332 rfl (lv_at hl 0 rfl) ?_
      obtain ⟨x5, ex5, hf⟩ := z_bs hf
      refine z_getF X hI (k := 41) (ci := 12) (gI_s ex5) i_Mod rfl (by decide) wf_Mod_176 d_Mod_readPattern_333 ?_
      obtain ⟨u6, eu6, hf⟩ := z_bs hf
      obtain ⟨r7, er7, hf⟩ := z_bs hf
      refine z_callV (As := [.int x5]) (rest := []) (r := none) (h' := r7) X hI eu6 (s_Mod_wrong er7) rfl rfl wm_Mod_187 yi_Mod_wrong rfl hl.1 rfl (Nat.le_of_ble_eq_true rfl) (by decide) (by decide) d_Mod_readPattern_336 (fun H locs hI => ?_)
      refine W.eq (g2 := F0 m 339 ls []) rfl ?_
      exact s_Mod_readPattern_339 X  v0 v1 r7 _ _ _ hI (lv_sub hl [0, 1] rfl) hf
def f_Mod_readPattern_114 (N : Nat)  : Nat → Nat → Int32 → z_H → Option (Int32 × z_H)
  | 0, _, _, _ => none
  | n + 1, v0, v1, h =>
    z_b (gI h v0 12 48) fun x1 =>
    if x1 = 0 then
    (z_b (gO h v0 12) fun u3 =>
    z_b (f_Mod_here N v0 h) fun r4 =>
    if (r4.1) = 47 then
    (f_Mod_readPattern_317 N v0 v1 r4.2)
    else
    (z_b (gR r4.2 v0 12 36) fun x6 =>
    z_b (aI r4.2 x6 3 v1) fun x7 =>
    if x7 = 0 then
    (z_b (gO r4.2 v0 12) fun u9 =>
    z_b (f_Mod_here N v0 r4.2) fun r10 =>
    z_b (some (r10.1)) fun x11 =>
    if x11 = (-1) then
    (z_b (gI r10.2 v0 12 3) fun x24 =>
    z_b (gO r10.2 v0 12) fun u25 =>
    z_b (f_Mod_wrong N v0 x24 r10.2) fun r26 =>
    (f_Mod_readPattern_114 N  n) v0 v1 r26)
    else
    (if x11 = 10 then
    (z_b (gI r10.2 v0 12 41) fun x21 =>
    z_b (gO r10.2 v0 12) fun u22 =>
    z_b (f_Mod_wrong N v0 x21 r10.2) fun r23 =>
    (f_Mod_readPattern_114 N  n) v0 v1 r23)
    else
    (if x11 = 36 then
    (z_b (gO r10.2 v0 12) fun u15 =>
    z_b (f_Mod_behind N v0 r10.2) fun r16 =>
    if (r16.1) = (-1) then
    (z_b (gI r16.2 v0 12 3) fun x18 =>
    z_b (gO r16.2 v0 12) fun u19 =>
    z_b (f_Mod_wrong N v0 x18 r16.2) fun r20 =>
    (f_Mod_readPattern_114 N  n) v0 v1 r20)
    else
    (f_Mod_readPattern_202 N (f_Mod_readPattern_114 N  n) v0 v1 x11 r16.2))
    else
    (f_Mod_readPattern_202 N (f_Mod_readPattern_114 N  n) v0 v1 x11 r10.2))))
    else
    (f_Mod_readPattern_317 N v0 v1 r4.2)))
    else
    (f_Mod_readPattern_317 N v0 v1 h)
set_option maxRecDepth 20000 in
set_option maxHeartbeats 2000000 in
theorem s_Mod_readPattern_114 (X : z_X p s m args meth c prog_14_method_23_code 3 (some .int) Ts "StreamForgeModel" D dA B) {N : Nat} {r : Int32} {h' : z_H}   : ∀ n : Nat, ∀ (v0 : Nat) (v1 : Int32) (h : z_H) (H : Heap) (locs : List Loc) (ls : Array Slot), z_I D dA B h s.heap H locs → lv_has ls 3 [(0, .ref v0), (1, .int v1)] → f_Mod_readPattern_114 N  n v0 v1 h = some (r, h') → W p l e (z_rm 3 73) s m args below meth c H locs 0 0 (MQ below (z_Q D dA B (some (.int r)) h') args s 0 0 (fun q => B ≤ q)) (F0 m 114 ls []) := by
  have hx := z_hx X
  have hb := z_hb X
  intro n
  induction n with
  | zero => intro v0 v1 h H locs ls hI hl hf; rw [f_Mod_readPattern_114] at hf; cases hf
  | succ n ih =>
    intro v0 v1 h H locs ls hI hl hf
    rw [f_Mod_readPattern_114] at hf
    refine lv_aload_n hx hb d_Mod_readPattern_114 rfl (lv_at hl 0 rfl) ?_
    obtain ⟨x1, ex1, hf⟩ := z_bs hf
    refine z_getF X hI (k := 48) (ci := 12) (gI_s ex1) i_Mod rfl (by decide) wf_Mod_179 d_Mod_readPattern_115 ?_
    refine lv_if_ne (tgt := 317) hx hb d_Mod_readPattern_118 (by decide) (fun c2 => ?_) (fun c2 => ?_)
    · rw [if_neg c2] at hf
      exact s_Mod_readPattern_317 X  v0 v1 h _ _ _ hI (lv_sub hl [0, 1] rfl) hf
    · rw [if_pos c2] at hf
      refine lv_aload_n hx hb d_Mod_readPattern_121 rfl (lv_at hl 0 rfl) ?_
      obtain ⟨u3, eu3, hf⟩ := z_bs hf
      obtain ⟨r4, er4, hf⟩ := z_bs hf
      refine z_callV (As := []) (rest := []) (r := (some (.int r4.1))) (h' := r4.2) X hI eu3 (s_Mod_here er4) rfl rfl wm_Mod_183 yi_Mod_here rfl hl.1 rfl (Nat.le_of_ble_eq_true rfl) (by decide) (by decide) d_Mod_readPattern_122 (fun H locs hI => ?_)
      refine W.eq (g2 := F0 m 125 ls [.int (r4.1)]) rfl ?_
      refine lv_bipush (v := 47) hx hb d_Mod_readPattern_125 (by decide) ?_
      refine lv_icmp_eq (tgt := 317) hx hb d_Mod_readPattern_127 (by decide) (fun c5 => ?_) (fun c5 => ?_)
      · rw [if_pos c5] at hf
        exact s_Mod_readPattern_317 X  v0 v1 r4.2 _ _ _ hI (lv_sub hl [0, 1] rfl) hf
      · rw [if_neg c5] at hf
        refine lv_aload_n hx hb d_Mod_readPattern_130 rfl (lv_at hl 0 rfl) ?_
        obtain ⟨x6, ex6, hf⟩ := z_bs hf
        refine z_getF X hI (k := 36) (ci := 12) (gR_s ex6) i_Mod rfl (by decide) wf_Mod_105 d_Mod_readPattern_131 ?_
        refine lv_iload_n hx hb d_Mod_readPattern_134 rfl (lv_at hl 1 rfl) ?_
        obtain ⟨x7, ex7, hf⟩ := z_bs hf
        refine z_zald X hI ex7 d_Mod_readPattern_135 ?_
        refine lv_if_ne (tgt := 317) hx hb d_Mod_readPattern_136 (by decide) (fun c8 => ?_) (fun c8 => ?_)
        · rw [if_neg c8] at hf
          exact s_Mod_readPattern_317 X  v0 v1 r4.2 _ _ _ hI (lv_sub hl [0, 1] rfl) hf
        · rw [if_pos c8] at hf
          refine lv_aload_n hx hb d_Mod_readPattern_139 rfl (lv_at hl 0 rfl) ?_
          obtain ⟨u9, eu9, hf⟩ := z_bs hf
          obtain ⟨r10, er10, hf⟩ := z_bs hf
          refine z_callV (As := []) (rest := []) (r := (some (.int r10.1))) (h' := r10.2) X hI eu9 (s_Mod_here er10) rfl rfl wm_Mod_183 yi_Mod_here rfl hl.1 rfl (Nat.le_of_ble_eq_true rfl) (by decide) (by decide) d_Mod_readPattern_140 (fun H locs hI => ?_)
          refine W.eq (g2 := F0 m 143 ls [.int (r10.1)]) rfl ?_
          obtain ⟨x11, ex11, hf⟩ := z_bs hf
          refine z_topi (Option.some.inj ex11) ?_
          refine lv_istore_n (lv' := [(2, .int x11), (0, .ref v0), (1, .int v1)]) hx hb d_Mod_readPattern_143 rfl hl (by decide) rfl (fun ls hl => ?_)
          refine lv_iload_n hx hb d_Mod_readPattern_144 rfl (lv_at hl 0 rfl) ?_
          refine lv_iconst (v := (-1)) hx hb d_Mod_readPattern_145 (by decide) ?_
          refine lv_icmp_ne (tgt := 160) hx hb d_Mod_readPattern_146 (by decide) (fun c12 => ?_) (fun c12 => ?_)
          · rw [if_neg c12] at hf
            refine lv_iload_n hx hb d_Mod_readPattern_160 rfl (lv_at hl 0 rfl) ?_
            refine lv_bipush (v := 10) hx hb d_Mod_readPattern_161 (by decide) ?_
            refine lv_icmp_ne (tgt := 177) hx hb d_Mod_readPattern_163 (by decide) (fun c13 => ?_) (fun c13 => ?_)
            · rw [if_neg c13] at hf
              refine lv_iload_n hx hb d_Mod_readPattern_177 rfl (lv_at hl 0 rfl) ?_
              refine lv_bipush (v := 36) hx hb d_Mod_readPattern_178 (by decide) ?_
              refine lv_icmp_ne (tgt := 202) hx hb d_Mod_readPattern_180 (by decide) (fun c14 => ?_) (fun c14 => ?_)
              · rw [if_neg c14] at hf
                exact s_Mod_readPattern_202 X ih v0 v1 x11 r10.2 _ _ _ hI (lv_sub hl [1, 2, 0] rfl) hf
              · rw [if_pos c14] at hf
                refine lv_aload_n hx hb d_Mod_readPattern_183 rfl (lv_at hl 1 rfl) ?_
                obtain ⟨u15, eu15, hf⟩ := z_bs hf
                obtain ⟨r16, er16, hf⟩ := z_bs hf
                refine z_callV (As := []) (rest := []) (r := (some (.int r16.1))) (h' := r16.2) X hI eu15 (s_Mod_behind er16) rfl rfl wm_Mod_200 yi_Mod_behind rfl hl.1 rfl (Nat.le_of_ble_eq_true rfl) (by decide) (by decide) d_Mod_readPattern_184 (fun H locs hI => ?_)
                refine W.eq (g2 := F0 m 187 ls [.int (r16.1)]) rfl ?_
                refine lv_iconst (v := (-1)) hx hb d_Mod_readPattern_187 (by decide) ?_
                refine lv_icmp_ne (tgt := 202) hx hb d_Mod_readPattern_188 (by decide) (fun c17 => ?_) (fun c17 => ?_)
                · rw [if_neg c17] at hf
                  exact s_Mod_readPattern_202 X ih v0 v1 x11 r16.2 _ _ _ hI (lv_sub hl [1, 2, 0] rfl) hf
                · rw [if_pos c17] at hf
                  refine lv_aload_n hx hb d_Mod_readPattern_191 rfl (lv_at hl 1 rfl) ?_
                  refine lv_aload_n hx hb d_Mod_readPattern_192 rfl (lv_at hl 1 rfl) ?_
                  obtain ⟨x18, ex18, hf⟩ := z_bs hf
                  refine z_getF X hI (k := 3) (ci := 12) (gI_s ex18) i_Mod rfl (by decide) wf_Mod_166 d_Mod_readPattern_193 ?_
                  obtain ⟨u19, eu19, hf⟩ := z_bs hf
                  obtain ⟨r20, er20, hf⟩ := z_bs hf
                  refine z_callV (As := [.int x18]) (rest := []) (r := none) (h' := r20) X hI eu19 (s_Mod_wrong er20) rfl rfl wm_Mod_187 yi_Mod_wrong rfl hl.1 rfl (Nat.le_of_ble_eq_true rfl) (by decide) (by decide) d_Mod_readPattern_196 (fun H locs hI => ?_)
                  refine W.eq (g2 := F0 m 199 ls []) rfl ?_
                  refine lv_goto (tgt := 314) hx hb d_Mod_readPattern_199 (by decide) ?_
                  refine lv_goto (tgt := 114) hx hb d_Mod_readPattern_314 (by decide) ?_
                  exact ih v0 v1 r20 _ _ _ hI (lv_sub hl [1, 2] rfl) hf
            · rw [if_pos c13] at hf
              refine lv_aload_n hx hb d_Mod_readPattern_166 rfl (lv_at hl 1 rfl) ?_
              refine lv_aload_n hx hb d_Mod_readPattern_167 rfl (lv_at hl 1 rfl) ?_
              obtain ⟨x21, ex21, hf⟩ := z_bs hf
              refine z_getF X hI (k := 41) (ci := 12) (gI_s ex21) i_Mod rfl (by decide) wf_Mod_176 d_Mod_readPattern_168 ?_
              obtain ⟨u22, eu22, hf⟩ := z_bs hf
              obtain ⟨r23, er23, hf⟩ := z_bs hf
              refine z_callV (As := [.int x21]) (rest := []) (r := none) (h' := r23) X hI eu22 (s_Mod_wrong er23) rfl rfl wm_Mod_187 yi_Mod_wrong rfl hl.1 rfl (Nat.le_of_ble_eq_true rfl) (by decide) (by decide) d_Mod_readPattern_171 (fun H locs hI => ?_)
              refine W.eq (g2 := F0 m 174 ls []) rfl ?_
              refine lv_goto (tgt := 314) hx hb d_Mod_readPattern_174 (by decide) ?_
              refine lv_goto (tgt := 114) hx hb d_Mod_readPattern_314 (by decide) ?_
              exact ih v0 v1 r23 _ _ _ hI (lv_sub hl [1, 2] rfl) hf
          · rw [if_pos c12] at hf
            refine lv_aload_n hx hb d_Mod_readPattern_149 rfl (lv_at hl 1 rfl) ?_
            refine lv_aload_n hx hb d_Mod_readPattern_150 rfl (lv_at hl 1 rfl) ?_
            obtain ⟨x24, ex24, hf⟩ := z_bs hf
            refine z_getF X hI (k := 3) (ci := 12) (gI_s ex24) i_Mod rfl (by decide) wf_Mod_166 d_Mod_readPattern_151 ?_
            obtain ⟨u25, eu25, hf⟩ := z_bs hf
            obtain ⟨r26, er26, hf⟩ := z_bs hf
            refine z_callV (As := [.int x24]) (rest := []) (r := none) (h' := r26) X hI eu25 (s_Mod_wrong er26) rfl rfl wm_Mod_187 yi_Mod_wrong rfl hl.1 rfl (Nat.le_of_ble_eq_true rfl) (by decide) (by decide) d_Mod_readPattern_154 (fun H locs hI => ?_)
            refine W.eq (g2 := F0 m 157 ls []) rfl ?_
            refine lv_goto (tgt := 314) hx hb d_Mod_readPattern_157 (by decide) ?_
            refine lv_goto (tgt := 114) hx hb d_Mod_readPattern_314 (by decide) ?_
            exact ih v0 v1 r26 _ _ _ hI (lv_sub hl [1, 2] rfl) hf
def f_Mod_readPattern_89 (N : Nat)  (v0 : Nat) (v1 : Int32) (h : z_H) : Option (Int32 × z_H) :=
  z_b (sF h v0 12 44 (.int 0)) fun h1 =>
  z_b (sF h1 v0 12 45 (.int 0)) fun h2 =>
  z_b (sF h2 v0 12 46 (.int 0)) fun h3 =>
  z_b (sF h3 v0 12 49 (.int 0)) fun h4 =>
  z_b (sF h4 v0 12 50 (.int 0)) fun h5 =>
  f_Mod_readPattern_114 N N v0 v1 h5
set_option maxRecDepth 20000 in
set_option maxHeartbeats 2000000 in
theorem s_Mod_readPattern_89 (X : z_X p s m args meth c prog_14_method_23_code 3 (some .int) Ts "StreamForgeModel" D dA B) {N : Nat} {r : Int32} {h' : z_H}   : ∀ (v0 : Nat) (v1 : Int32) (h : z_H) (H : Heap) (locs : List Loc) (ls : Array Slot), z_I D dA B h s.heap H locs → lv_has ls 3 [(0, .ref v0), (1, .int v1)] → f_Mod_readPattern_89 N  v0 v1 h = some (r, h') → W p l e (z_rm 3 73) s m args below meth c H locs 0 0 (MQ below (z_Q D dA B (some (.int r)) h') args s 0 0 (fun q => B ≤ q)) (F0 m 89 ls []) := by
  have hx := z_hx X
  have hb := z_hb X
  intro v0 v1 h H locs ls hI hl hf
  unfold f_Mod_readPattern_89 at hf
  refine lv_aload_n hx hb d_Mod_readPattern_89 rfl (lv_at hl 0 rfl) ?_
  refine lv_iconst (v := 0) hx hb d_Mod_readPattern_90 (by decide) ?_
  obtain ⟨h1, eh1, hf⟩ := z_bs hf
  refine z_putF X hI (k := 44) (ci := 12) (ty0 := t_Mod) eh1 i_Mod t_Mod_ok n_Mod rfl (by decide) wf_Mod_206 rfl rfl rfl d_Mod_readPattern_91 (fun H locs hI => ?_)
  refine lv_aload_n hx hb d_Mod_readPattern_94 rfl (lv_at hl 0 rfl) ?_
  refine lv_iconst (v := 0) hx hb d_Mod_readPattern_95 (by decide) ?_
  obtain ⟨h2, eh2, hf⟩ := z_bs hf
  refine z_putF X hI (k := 45) (ci := 12) (ty0 := t_Mod) eh2 i_Mod t_Mod_ok n_Mod rfl (by decide) wf_Mod_222 rfl rfl rfl d_Mod_readPattern_96 (fun H locs hI => ?_)
  refine lv_aload_n hx hb d_Mod_readPattern_99 rfl (lv_at hl 0 rfl) ?_
  refine lv_iconst (v := 0) hx hb d_Mod_readPattern_100 (by decide) ?_
  obtain ⟨h3, eh3, hf⟩ := z_bs hf
  refine z_putF X hI (k := 46) (ci := 12) (ty0 := t_Mod) eh3 i_Mod t_Mod_ok n_Mod rfl (by decide) wf_Mod_194 rfl rfl rfl d_Mod_readPattern_101 (fun H locs hI => ?_)
  refine lv_aload_n hx hb d_Mod_readPattern_104 rfl (lv_at hl 0 rfl) ?_
  refine lv_iconst (v := 0) hx hb d_Mod_readPattern_105 (by decide) ?_
  obtain ⟨h4, eh4, hf⟩ := z_bs hf
  refine z_putF X hI (k := 49) (ci := 12) (ty0 := t_Mod) eh4 i_Mod t_Mod_ok n_Mod rfl (by decide) wf_Mod_203 rfl rfl rfl d_Mod_readPattern_106 (fun H locs hI => ?_)
  refine lv_aload_n hx hb d_Mod_readPattern_109 rfl (lv_at hl 0 rfl) ?_
  refine lv_iconst (v := 0) hx hb d_Mod_readPattern_110 (by decide) ?_
  obtain ⟨h5, eh5, hf⟩ := z_bs hf
  refine z_putF X hI (k := 50) (ci := 12) (ty0 := t_Mod) eh5 i_Mod t_Mod_ok n_Mod rfl (by decide) wf_Mod_197 rfl rfl rfl d_Mod_readPattern_111 (fun H locs hI => ?_)
  exact s_Mod_readPattern_114 X  N v0 v1 h5 _ _ _ hI (lv_sub hl [0, 1] rfl) hf
def f_Mod_readPattern_62 (N : Nat)  (v0 : Nat) (v1 : Int32) (s0 : Nat) (s1 : Int32) (s2 : Int32) (h : z_H) : Option (Int32 × z_H) :=
  z_b (uI h s0 3 s1 (vp_nar .boolean s2)) fun h1 =>
  z_b (gR h1 v0 12 36) fun x2 =>
  z_b (uI h1 x2 3 v1 (vp_nar .boolean 0)) fun h3 =>
  z_b (gR h3 v0 12 35) fun x4 =>
  z_b (aI h3 x4 3 v1) fun x5 =>
  if x5 = 0 then
  (f_Mod_readPattern_89 N v0 v1 h3)
  else
  (z_b (gI h3 v0 12 41) fun x7 =>
  z_b (sF h3 v0 12 41 (.int (x7 + 1))) fun h8 =>
  f_Mod_readPattern_89 N v0 v1 h8)
set_option maxRecDepth 20000 in
set_option maxHeartbeats 2000000 in
theorem s_Mod_readPattern_62 (X : z_X p s m args meth c prog_14_method_23_code 3 (some .int) Ts "StreamForgeModel" D dA B) {N : Nat} {r : Int32} {h' : z_H}   : ∀ (v0 : Nat) (v1 : Int32) (s0 : Nat) (s1 : Int32) (s2 : Int32) (h : z_H) (H : Heap) (locs : List Loc) (ls : Array Slot), z_I D dA B h s.heap H locs → lv_has ls 3 [(0, .ref v0), (1, .int v1)] → f_Mod_readPattern_62 N  v0 v1 s0 s1 s2 h = some (r, h') → W p l e (z_rm 3 73) s m args below meth c H locs 0 0 (MQ below (z_Q D dA B (some (.int r)) h') args s 0 0 (fun q => B ≤ q)) (F0 m 62 ls [.int s2, .int s1, .ref s0]) := by
  have hx := z_hx X
  have hb := z_hb X
  intro v0 v1 s0 s1 s2 h H locs ls hI hl hf
  unfold f_Mod_readPattern_62 at hf
  obtain ⟨h1, eh1, hf⟩ := z_bs hf
  refine z_zast X hI eh1 d_Mod_readPattern_62 (fun H locs hI => ?_)
  refine lv_aload_n hx hb d_Mod_readPattern_63 rfl (lv_at hl 0 rfl) ?_
  obtain ⟨x2, ex2, hf⟩ := z_bs hf
  refine z_getF X hI (k := 36) (ci := 12) (gR_s ex2) i_Mod rfl (by decide) wf_Mod_105 d_Mod_readPattern_64 ?_
  refine lv_iload_n hx hb d_Mod_readPattern_67 rfl (lv_at hl 1 rfl) ?_
  refine lv_iconst (v := 0) hx hb d_Mod_readPattern_68 (by decide) ?_
  obtain ⟨h3, eh3, hf⟩ := z_bs hf
  refine z_zast X hI eh3 d_Mod_readPattern_69 (fun H locs hI => ?_)
  refine lv_aload_n hx hb d_Mod_readPattern_70 rfl (lv_at hl 0 rfl) ?_
  obtain ⟨x4, ex4, hf⟩ := z_bs hf
  refine z_getF X hI (k := 35) (ci := 12) (gR_s ex4) i_Mod rfl (by decide) wf_Mod_102 d_Mod_readPattern_71 ?_
  refine lv_iload_n hx hb d_Mod_readPattern_74 rfl (lv_at hl 1 rfl) ?_
  obtain ⟨x5, ex5, hf⟩ := z_bs hf
  refine z_zald X hI ex5 d_Mod_readPattern_75 ?_
  refine lv_if_eq (tgt := 89) hx hb d_Mod_readPattern_76 (by decide) (fun c6 => ?_) (fun c6 => ?_)
  · rw [if_pos c6] at hf
    exact s_Mod_readPattern_89 X  v0 v1 h3 _ _ _ hI (lv_sub hl [0, 1] rfl) hf
  · rw [if_neg c6] at hf
    refine lv_aload_n hx hb d_Mod_readPattern_79 rfl (lv_at hl 0 rfl) ?_
    refine lv_dup hx hb d_Mod_readPattern_80 rfl ?_
    obtain ⟨x7, ex7, hf⟩ := z_bs hf
    refine z_getF X hI (k := 41) (ci := 12) (gI_s ex7) i_Mod rfl (by decide) wf_Mod_176 d_Mod_readPattern_81 ?_
    refine lv_iconst (v := 1) hx hb d_Mod_readPattern_84 (by decide) ?_
    refine lv_iadd hx hb d_Mod_readPattern_85 ?_
    obtain ⟨h8, eh8, hf⟩ := z_bs hf
    refine z_putF X hI (k := 41) (ci := 12) (ty0 := t_Mod) eh8 i_Mod t_Mod_ok n_Mod rfl (by decide) wf_Mod_176 rfl rfl rfl d_Mod_readPattern_86 (fun H locs hI => ?_)
    exact s_Mod_readPattern_89 X  v0 v1 h8 _ _ _ hI (lv_sub hl [0, 1] rfl) hf
def f_Mod_readPattern (N : Nat) (v0 : Nat) (h : z_H) : Option (Int32 × z_H) :=
  z_b (gI h v0 12 42) fun x1 =>
  z_b (gR h v0 12 25) fun x2 =>
  z_b (gI h v0 12 42) fun x3 =>
  z_b (aI h x2 0 x3) fun x4 =>
  z_b (some ((130 * x1) + x4)) fun x5 =>
  z_b (gR h v0 12 28) fun x6 =>
  z_b (gI h v0 12 42) fun x7 =>
  z_b (gR h v0 12 26) fun x8 =>
  z_b (gI h v0 12 42) fun x9 =>
  z_b (aI h x8 0 x9) fun x10 =>
  z_b (uI h x6 0 x5 ((260 * x7) + x10)) fun h11 =>
  z_b (gR h11 v0 12 35) fun x12 =>
  z_b (gO h11 v0 12) fun u13 =>
  z_b (f_Mod_here N v0 h11) fun r14 =>
  if (r14.1) = 94 then
  (f_Mod_readPattern_62 N v0 x5 x12 x5 1 r14.2)
  else
  (f_Mod_readPattern_62 N v0 x5 x12 x5 0 r14.2)
set_option maxRecDepth 20000 in
set_option maxHeartbeats 2000000 in
theorem s_Mod_readPattern {l : Launch} {D : va_G} {dA : Nat → ClassId} {B N : Nat} {v0 : Nat} {h h' : z_H} {r : Int32} (hf : f_Mod_readPattern N v0 h = some (r, h')) : z_Met l y_Mod_readPattern prog_14_method_23_code 3 (some .int) 3 73 D dA B [.ref v0] h (some (.int r)) h' := by
  refine z_of (by decide) (Nat.le_of_ble_eq_true rfl) (fun p e s m below meth c ls X hI hl => ?_)
  have hx := z_hx X
  have hb := z_hb X
  have hl : lv_has ls 3 [(0, .ref v0)] := hl
  unfold f_Mod_readPattern at hf
  obtain ⟨locs, hlo⟩ : ∃ z : List Loc, z = [] := ⟨_, rfl⟩
  rw [← hlo] at hI ⊢
  refine lv_sipush (v := 130) hx hb d_Mod_readPattern_0 (by decide) ?_
  refine lv_aload_n hx hb d_Mod_readPattern_3 rfl (lv_at hl 0 rfl) ?_
  obtain ⟨x1, ex1, hf⟩ := z_bs hf
  refine z_getF X hI (k := 42) (ci := 12) (gI_s ex1) i_Mod rfl (by decide) wf_Mod_191 d_Mod_readPattern_4 ?_
  refine lv_imul hx hb d_Mod_readPattern_7 ?_
  refine lv_aload_n hx hb d_Mod_readPattern_8 rfl (lv_at hl 0 rfl) ?_
  obtain ⟨x2, ex2, hf⟩ := z_bs hf
  refine z_getF X hI (k := 25) (ci := 12) (gR_s ex2) i_Mod rfl (by decide) wf_Mod_72 d_Mod_readPattern_9 ?_
  refine lv_aload_n hx hb d_Mod_readPattern_12 rfl (lv_at hl 0 rfl) ?_
  obtain ⟨x3, ex3, hf⟩ := z_bs hf
  refine z_getF X hI (k := 42) (ci := 12) (gI_s ex3) i_Mod rfl (by decide) wf_Mod_191 d_Mod_readPattern_13 ?_
  obtain ⟨x4, ex4, hf⟩ := z_bs hf
  refine z_iald X hI ex4 d_Mod_readPattern_16 ?_
  refine lv_iadd hx hb d_Mod_readPattern_17 ?_
  obtain ⟨x5, ex5, hf⟩ := z_bs hf
  refine z_topi (Option.some.inj ex5) ?_
  refine lv_istore_n (lv' := [(1, .int x5), (0, .ref v0)]) hx hb d_Mod_readPattern_18 rfl hl (by decide) rfl (fun ls hl => ?_)
  refine lv_aload_n hx hb d_Mod_readPattern_19 rfl (lv_at hl 1 rfl) ?_
  obtain ⟨x6, ex6, hf⟩ := z_bs hf
  refine z_getF X hI (k := 28) (ci := 12) (gR_s ex6) i_Mod rfl (by decide) wf_Mod_81 d_Mod_readPattern_20 ?_
  refine lv_iload_n hx hb d_Mod_readPattern_23 rfl (lv_at hl 0 rfl) ?_
  refine lv_sipush (v := 260) hx hb d_Mod_readPattern_24 (by decide) ?_
  refine lv_aload_n hx hb d_Mod_readPattern_27 rfl (lv_at hl 1 rfl) ?_
  obtain ⟨x7, ex7, hf⟩ := z_bs hf
  refine z_getF X hI (k := 42) (ci := 12) (gI_s ex7) i_Mod rfl (by decide) wf_Mod_191 d_Mod_readPattern_28 ?_
  refine lv_imul hx hb d_Mod_readPattern_31 ?_
  refine lv_aload_n hx hb d_Mod_readPattern_32 rfl (lv_at hl 1 rfl) ?_
  obtain ⟨x8, ex8, hf⟩ := z_bs hf
  refine z_getF X hI (k := 26) (ci := 12) (gR_s ex8) i_Mod rfl (by decide) wf_Mod_75 d_Mod_readPattern_33 ?_
  refine lv_aload_n hx hb d_Mod_readPattern_36 rfl (lv_at hl 1 rfl) ?_
  obtain ⟨x9, ex9, hf⟩ := z_bs hf
  refine z_getF X hI (k := 42) (ci := 12) (gI_s ex9) i_Mod rfl (by decide) wf_Mod_191 d_Mod_readPattern_37 ?_
  obtain ⟨x10, ex10, hf⟩ := z_bs hf
  refine z_iald X hI ex10 d_Mod_readPattern_40 ?_
  refine lv_iadd hx hb d_Mod_readPattern_41 ?_
  obtain ⟨h11, eh11, hf⟩ := z_bs hf
  refine z_iast X hI eh11 d_Mod_readPattern_42 (fun H locs hI => ?_)
  refine lv_aload_n hx hb d_Mod_readPattern_43 rfl (lv_at hl 1 rfl) ?_
  obtain ⟨x12, ex12, hf⟩ := z_bs hf
  refine z_getF X hI (k := 35) (ci := 12) (gR_s ex12) i_Mod rfl (by decide) wf_Mod_102 d_Mod_readPattern_44 ?_
  refine lv_iload_n hx hb d_Mod_readPattern_47 rfl (lv_at hl 0 rfl) ?_
  refine lv_aload_n hx hb d_Mod_readPattern_48 rfl (lv_at hl 1 rfl) ?_
  obtain ⟨u13, eu13, hf⟩ := z_bs hf
  obtain ⟨r14, er14, hf⟩ := z_bs hf
  refine z_callV (As := []) (rest := [.int x5, .ref x12]) (r := (some (.int r14.1))) (h' := r14.2) X hI eu13 (s_Mod_here er14) rfl rfl wm_Mod_183 yi_Mod_here rfl hl.1 rfl (Nat.le_of_ble_eq_true rfl) (by decide) (by decide) d_Mod_readPattern_49 (fun H locs hI => ?_)
  refine W.eq (g2 := F0 m 52 ls [.int (r14.1), .int x5, .ref x12]) rfl ?_
  refine lv_bipush (v := 94) hx hb d_Mod_readPattern_52 (by decide) ?_
  refine lv_icmp_ne (tgt := 61) hx hb d_Mod_readPattern_54 (by decide) (fun c15 => ?_) (fun c15 => ?_)
  · rw [if_neg c15] at hf
    refine lv_iconst (v := 0) hx hb d_Mod_readPattern_61 (by decide) ?_
    exact s_Mod_readPattern_62 X  v0 x5 x12 x5 0 r14.2 _ _ _ hI (lv_sub hl [1, 0] rfl) hf
  · rw [if_pos c15] at hf
    refine lv_iconst (v := 1) hx hb d_Mod_readPattern_57 (by decide) ?_
    refine lv_goto (tgt := 62) hx hb d_Mod_readPattern_58 (by decide) ?_
    exact s_Mod_readPattern_62 X  v0 x5 x12 x5 1 r14.2 _ _ _ hI (lv_sub hl [1, 0] rfl) hf
def f_Mod_address (N : Nat) (v0 : Nat) (h : z_H) : Option (Int32 × z_H) :=
  z_b (gO h v0 12) fun u1 =>
  z_b (f_Mod_here N v0 h) fun r2 =>
  z_b (some (r2.1)) fun x3 =>
  z_b (sF r2.2 v0 12 47 (.int 0)) fun h4 =>
  z_b (f_Mod_in N x3 49 57 h4) fun r5 =>
  if (r5.1) = 0 then
  (if x3 = 36 then
  (z_b (gI r5.2 v0 12 41) fun x14 =>
  z_b (sF r5.2 v0 12 41 (.int (x14 + 1))) fun h15 =>
  some (2, h15))
  else
  (if x3 = 47 then
  (z_b (gI r5.2 v0 12 41) fun x9 =>
  z_b (sF r5.2 v0 12 41 (.int (x9 + 1))) fun h10 =>
  z_b (gO h10 v0 12) fun u11 =>
  z_b (f_Mod_readPattern N v0 h10) fun r12 =>
  z_b (sF r12.2 v0 12 47 (.int (r12.1))) fun h13 =>
  some (3, h13))
  else
  (some (0, r5.2))))
  else
  (z_b (sF r5.2 v0 12 47 (.int (x3 - 48))) fun h16 =>
  z_b (gI h16 v0 12 41) fun x17 =>
  z_b (sF h16 v0 12 41 (.int (x17 + 1))) fun h18 =>
  z_b (gO h18 v0 12) fun u19 =>
  z_b (f_Mod_here N v0 h18) fun r20 =>
  z_b (f_Mod_in N (r20.1) 48 57 r20.2) fun r21 =>
  if (r21.1) = 0 then
  (some (1, r21.2))
  else
  (z_b (gI r21.2 v0 12 47) fun x23 =>
  z_b (gO r21.2 v0 12) fun u24 =>
  z_b (f_Mod_here N v0 r21.2) fun r25 =>
  z_b (sF r25.2 v0 12 47 (.int (((10 * x23) + (r25.1)) - 48))) fun h26 =>
  z_b (gI h26 v0 12 41) fun x27 =>
  z_b (sF h26 v0 12 41 (.int (x27 + 1))) fun h28 =>
  some (1, h28)))
set_option maxRecDepth 20000 in
set_option maxHeartbeats 2000000 in
theorem s_Mod_address {l : Launch} {D : va_G} {dA : Nat → ClassId} {B N : Nat} {v0 : Nat} {h h' : z_H} {r : Int32} (hf : f_Mod_address N v0 h = some (r, h')) : z_Met l y_Mod_address prog_14_method_24_code 2 (some .int) 4 95 D dA B [.ref v0] h (some (.int r)) h' := by
  refine z_of (by decide) (Nat.le_of_ble_eq_true rfl) (fun p e s m below meth c ls X hI hl => ?_)
  have hx := z_hx X
  have hb := z_hb X
  have hl : lv_has ls 2 [(0, .ref v0)] := hl
  unfold f_Mod_address at hf
  obtain ⟨locs, hlo⟩ : ∃ z : List Loc, z = [] := ⟨_, rfl⟩
  rw [← hlo] at hI ⊢
  refine lv_aload_n hx hb d_Mod_address_0 rfl (lv_at hl 0 rfl) ?_
  obtain ⟨u1, eu1, hf⟩ := z_bs hf
  obtain ⟨r2, er2, hf⟩ := z_bs hf
  refine z_callV (As := []) (rest := []) (r := (some (.int r2.1))) (h' := r2.2) X hI eu1 (s_Mod_here er2) rfl rfl wm_Mod_183 yi_Mod_here rfl hl.1 rfl (Nat.le_of_ble_eq_true rfl) (by decide) (by decide) d_Mod_address_1 (fun H locs hI => ?_)
  refine W.eq (g2 := F0 m 4 ls [.int (r2.1)]) rfl ?_
  obtain ⟨x3, ex3, hf⟩ := z_bs hf
  refine z_topi (Option.some.inj ex3) ?_
  refine lv_istore_n (lv' := [(1, .int x3), (0, .ref v0)]) hx hb d_Mod_address_4 rfl hl (by decide) rfl (fun ls hl => ?_)
  refine lv_aload_n hx hb d_Mod_address_5 rfl (lv_at hl 1 rfl) ?_
  refine lv_iconst (v := 0) hx hb d_Mod_address_6 (by decide) ?_
  obtain ⟨h4, eh4, hf⟩ := z_bs hf
  refine z_putF X hI (k := 47) (ci := 12) (ty0 := t_Mod) eh4 i_Mod t_Mod_ok n_Mod rfl (by decide) wf_Mod_234 rfl rfl rfl d_Mod_address_7 (fun H locs hI => ?_)
  refine lv_iload_n hx hb d_Mod_address_10 rfl (lv_at hl 0 rfl) ?_
  refine lv_bipush (v := 49) hx hb d_Mod_address_11 (by decide) ?_
  refine lv_bipush (v := 57) hx hb d_Mod_address_13 (by decide) ?_
  obtain ⟨r5, er5, hf⟩ := z_bs hf
  refine z_callS (As := [.int x3, .int 49, .int 57]) (rest := []) (r := (some (.int r5.1))) (h' := r5.2) X hI (s_Mod_in er5) rfl wm_Mod_154 yi_Mod_in rfl hl.1 rfl (Nat.le_of_ble_eq_true rfl) (by decide) (by decide) d_Mod_address_15 (fun H locs hI => ?_)
  refine W.eq (g2 := F0 m 18 ls [.int (r5.1)]) rfl ?_
  refine lv_if_eq (tgt := 84) hx hb d_Mod_address_18 (by decide) (fun c6 => ?_) (fun c6 => ?_)
  · rw [if_pos c6] at hf
    refine lv_iload_n hx hb d_Mod_address_84 rfl (lv_at hl 0 rfl) ?_
    refine lv_bipush (v := 36) hx hb d_Mod_address_85 (by decide) ?_
    refine lv_icmp_ne (tgt := 102) hx hb d_Mod_address_87 (by decide) (fun c7 => ?_) (fun c7 => ?_)
    · rw [if_neg c7] at hf
      refine lv_iload_n hx hb d_Mod_address_102 rfl (lv_at hl 0 rfl) ?_
      refine lv_bipush (v := 47) hx hb d_Mod_address_103 (by decide) ?_
      refine lv_icmp_eq (tgt := 110) hx hb d_Mod_address_105 (by decide) (fun c8 => ?_) (fun c8 => ?_)
      · rw [if_pos c8] at hf
        refine lv_aload_n hx hb d_Mod_address_110 rfl (lv_at hl 1 rfl) ?_
        refine lv_dup hx hb d_Mod_address_111 rfl ?_
        obtain ⟨x9, ex9, hf⟩ := z_bs hf
        refine z_getF X hI (k := 41) (ci := 12) (gI_s ex9) i_Mod rfl (by decide) wf_Mod_176 d_Mod_address_112 ?_
        refine lv_iconst (v := 1) hx hb d_Mod_address_115 (by decide) ?_
        refine lv_iadd hx hb d_Mod_address_116 ?_
        obtain ⟨h10, eh10, hf⟩ := z_bs hf
        refine z_putF X hI (k := 41) (ci := 12) (ty0 := t_Mod) eh10 i_Mod t_Mod_ok n_Mod rfl (by decide) wf_Mod_176 rfl rfl rfl d_Mod_address_117 (fun H locs hI => ?_)
        refine lv_aload_n hx hb d_Mod_address_120 rfl (lv_at hl 1 rfl) ?_
        refine lv_aload_n hx hb d_Mod_address_121 rfl (lv_at hl 1 rfl) ?_
        obtain ⟨u11, eu11, hf⟩ := z_bs hf
        obtain ⟨r12, er12, hf⟩ := z_bs hf
        refine z_callV (As := []) (rest := [.ref v0]) (r := (some (.int r12.1))) (h' := r12.2) X hI eu11 (s_Mod_readPattern er12) rfl rfl wm_Mod_237 yi_Mod_readPattern rfl hl.1 rfl (Nat.le_of_ble_eq_true rfl) (by decide) (by decide) d_Mod_address_122 (fun H locs hI => ?_)
        refine W.eq (g2 := F0 m 125 ls [.int (r12.1), .ref v0]) rfl ?_
        obtain ⟨h13, eh13, hf⟩ := z_bs hf
        refine z_putF X hI (k := 47) (ci := 12) (ty0 := t_Mod) eh13 i_Mod t_Mod_ok n_Mod rfl (by decide) wf_Mod_234 rfl rfl rfl d_Mod_address_125 (fun H locs hI => ?_)
        refine lv_iconst (v := 3) hx hb d_Mod_address_128 (by decide) ?_
        cases hf
        exact z_iret X hI d_Mod_address_129
      · rw [if_neg c8] at hf
        refine lv_iconst (v := 0) hx hb d_Mod_address_108 (by decide) ?_
        cases hf
        exact z_iret X hI d_Mod_address_109
    · rw [if_pos c7] at hf
      refine lv_aload_n hx hb d_Mod_address_90 rfl (lv_at hl 1 rfl) ?_
      refine lv_dup hx hb d_Mod_address_91 rfl ?_
      obtain ⟨x14, ex14, hf⟩ := z_bs hf
      refine z_getF X hI (k := 41) (ci := 12) (gI_s ex14) i_Mod rfl (by decide) wf_Mod_176 d_Mod_address_92 ?_
      refine lv_iconst (v := 1) hx hb d_Mod_address_95 (by decide) ?_
      refine lv_iadd hx hb d_Mod_address_96 ?_
      obtain ⟨h15, eh15, hf⟩ := z_bs hf
      refine z_putF X hI (k := 41) (ci := 12) (ty0 := t_Mod) eh15 i_Mod t_Mod_ok n_Mod rfl (by decide) wf_Mod_176 rfl rfl rfl d_Mod_address_97 (fun H locs hI => ?_)
      refine lv_iconst (v := 2) hx hb d_Mod_address_100 (by decide) ?_
      cases hf
      exact z_iret X hI d_Mod_address_101
  · rw [if_neg c6] at hf
    refine lv_aload_n hx hb d_Mod_address_21 rfl (lv_at hl 1 rfl) ?_
    refine lv_iload_n hx hb d_Mod_address_22 rfl (lv_at hl 0 rfl) ?_
    refine lv_bipush (v := 48) hx hb d_Mod_address_23 (by decide) ?_
    refine lv_isub hx hb d_Mod_address_25 ?_
    obtain ⟨h16, eh16, hf⟩ := z_bs hf
    refine z_putF X hI (k := 47) (ci := 12) (ty0 := t_Mod) eh16 i_Mod t_Mod_ok n_Mod rfl (by decide) wf_Mod_234 rfl rfl rfl d_Mod_address_26 (fun H locs hI => ?_)
    refine lv_aload_n hx hb d_Mod_address_29 rfl (lv_at hl 1 rfl) ?_
    refine lv_dup hx hb d_Mod_address_30 rfl ?_
    obtain ⟨x17, ex17, hf⟩ := z_bs hf
    refine z_getF X hI (k := 41) (ci := 12) (gI_s ex17) i_Mod rfl (by decide) wf_Mod_176 d_Mod_address_31 ?_
    refine lv_iconst (v := 1) hx hb d_Mod_address_34 (by decide) ?_
    refine lv_iadd hx hb d_Mod_address_35 ?_
    obtain ⟨h18, eh18, hf⟩ := z_bs hf
    refine z_putF X hI (k := 41) (ci := 12) (ty0 := t_Mod) eh18 i_Mod t_Mod_ok n_Mod rfl (by decide) wf_Mod_176 rfl rfl rfl d_Mod_address_36 (fun H locs hI => ?_)
    refine lv_aload_n hx hb d_Mod_address_39 rfl (lv_at hl 1 rfl) ?_
    obtain ⟨u19, eu19, hf⟩ := z_bs hf
    obtain ⟨r20, er20, hf⟩ := z_bs hf
    refine z_callV (As := []) (rest := []) (r := (some (.int r20.1))) (h' := r20.2) X hI eu19 (s_Mod_here er20) rfl rfl wm_Mod_183 yi_Mod_here rfl hl.1 rfl (Nat.le_of_ble_eq_true rfl) (by decide) (by decide) d_Mod_address_40 (fun H locs hI => ?_)
    refine W.eq (g2 := F0 m 43 ls [.int (r20.1)]) rfl ?_
    refine lv_bipush (v := 48) hx hb d_Mod_address_43 (by decide) ?_
    refine lv_bipush (v := 57) hx hb d_Mod_address_45 (by decide) ?_
    obtain ⟨r21, er21, hf⟩ := z_bs hf
    refine z_callS (As := [.int (r20.1), .int 48, .int 57]) (rest := []) (r := (some (.int r21.1))) (h' := r21.2) X hI (s_Mod_in er21) rfl wm_Mod_154 yi_Mod_in rfl hl.1 rfl (Nat.le_of_ble_eq_true rfl) (by decide) (by decide) d_Mod_address_47 (fun H locs hI => ?_)
    refine W.eq (g2 := F0 m 50 ls [.int (r21.1)]) rfl ?_
    refine lv_if_eq (tgt := 82) hx hb d_Mod_address_50 (by decide) (fun c22 => ?_) (fun c22 => ?_)
    · rw [if_pos c22] at hf
      refine lv_iconst (v := 1) hx hb d_Mod_address_82 (by decide) ?_
      cases hf
      exact z_iret X hI d_Mod_address_83
    · rw [if_neg c22] at hf
      refine lv_aload_n hx hb d_Mod_address_53 rfl (lv_at hl 1 rfl) ?_
      refine lv_bipush (v := 10) hx hb d_Mod_address_54 (by decide) ?_
      refine lv_aload_n hx hb d_Mod_address_56 rfl (lv_at hl 1 rfl) ?_
      obtain ⟨x23, ex23, hf⟩ := z_bs hf
      refine z_getF X hI (k := 47) (ci := 12) (gI_s ex23) i_Mod rfl (by decide) wf_Mod_234 d_Mod_address_57 ?_
      refine lv_imul hx hb d_Mod_address_60 ?_
      refine lv_aload_n hx hb d_Mod_address_61 rfl (lv_at hl 1 rfl) ?_
      obtain ⟨u24, eu24, hf⟩ := z_bs hf
      obtain ⟨r25, er25, hf⟩ := z_bs hf
      refine z_callV (As := []) (rest := [.int (10 * x23), .ref v0]) (r := (some (.int r25.1))) (h' := r25.2) X hI eu24 (s_Mod_here er25) rfl rfl wm_Mod_183 yi_Mod_here rfl hl.1 rfl (Nat.le_of_ble_eq_true rfl) (by decide) (by decide) d_Mod_address_62 (fun H locs hI => ?_)
      refine W.eq (g2 := F0 m 65 ls [.int (r25.1), .int (10 * x23), .ref v0]) rfl ?_
      refine lv_iadd hx hb d_Mod_address_65 ?_
      refine lv_bipush (v := 48) hx hb d_Mod_address_66 (by decide) ?_
      refine lv_isub hx hb d_Mod_address_68 ?_
      obtain ⟨h26, eh26, hf⟩ := z_bs hf
      refine z_putF X hI (k := 47) (ci := 12) (ty0 := t_Mod) eh26 i_Mod t_Mod_ok n_Mod rfl (by decide) wf_Mod_234 rfl rfl rfl d_Mod_address_69 (fun H locs hI => ?_)
      refine lv_aload_n hx hb d_Mod_address_72 rfl (lv_at hl 1 rfl) ?_
      refine lv_dup hx hb d_Mod_address_73 rfl ?_
      obtain ⟨x27, ex27, hf⟩ := z_bs hf
      refine z_getF X hI (k := 41) (ci := 12) (gI_s ex27) i_Mod rfl (by decide) wf_Mod_176 d_Mod_address_74 ?_
      refine lv_iconst (v := 1) hx hb d_Mod_address_77 (by decide) ?_
      refine lv_iadd hx hb d_Mod_address_78 ?_
      obtain ⟨h28, eh28, hf⟩ := z_bs hf
      refine z_putF X hI (k := 41) (ci := 12) (ty0 := t_Mod) eh28 i_Mod t_Mod_ok n_Mod rfl (by decide) wf_Mod_176 rfl rfl rfl d_Mod_address_79 (fun H locs hI => ?_)
      refine lv_iconst (v := 1) hx hb d_Mod_address_82 (by decide) ?_
      cases hf
      exact z_iret X hI d_Mod_address_83
def f_Mod_blanks_0 (N : Nat)  : Nat → Nat → z_H → Option z_H
  | 0, _, _ => none
  | n + 1, v0, h =>
    z_b (gO h v0 12) fun u1 =>
    z_b (f_Mod_here N v0 h) fun r2 =>
    if (r2.1) = 32 then
    (z_b (gI r2.2 v0 12 41) fun x4 =>
    z_b (sF r2.2 v0 12 41 (.int (x4 + 1))) fun h5 =>
    (f_Mod_blanks_0 N  n) v0 h5)
    else
    (some r2.2)
set_option maxRecDepth 20000 in
set_option maxHeartbeats 2000000 in
theorem s_Mod_blanks_0 (X : z_X p s m args meth c prog_14_method_25_code 1 none Ts "StreamForgeModel" D dA B) {N : Nat} {h' : z_H}   : ∀ n : Nat, ∀ (v0 : Nat) (h : z_H) (H : Heap) (locs : List Loc) (ls : Array Slot), z_I D dA B h s.heap H locs → lv_has ls 1 [(0, .ref v0)] → f_Mod_blanks_0 N  n v0 h = some h' → W p l e (z_rm 1 20) s m args below meth c H locs 0 0 (MQ below (z_Q D dA B none h') args s 0 0 (fun q => B ≤ q)) (F0 m 0 ls []) := by
  have hx := z_hx X
  have hb := z_hb X
  intro n
  induction n with
  | zero => intro v0 h H locs ls hI hl hf; rw [f_Mod_blanks_0] at hf; cases hf
  | succ n ih =>
    intro v0 h H locs ls hI hl hf
    rw [f_Mod_blanks_0] at hf
    refine lv_aload_n hx hb d_Mod_blanks_0 rfl (lv_at hl 0 rfl) ?_
    obtain ⟨u1, eu1, hf⟩ := z_bs hf
    obtain ⟨r2, er2, hf⟩ := z_bs hf
    refine z_callV (As := []) (rest := []) (r := (some (.int r2.1))) (h' := r2.2) X hI eu1 (s_Mod_here er2) rfl rfl wm_Mod_183 yi_Mod_here rfl hl.1 rfl (Nat.le_of_ble_eq_true rfl) (by decide) (by decide) d_Mod_blanks_1 (fun H locs hI => ?_)
    refine W.eq (g2 := F0 m 4 ls [.int (r2.1)]) rfl ?_
    refine lv_bipush (v := 32) hx hb d_Mod_blanks_4 (by decide) ?_
    refine lv_icmp_ne (tgt := 22) hx hb d_Mod_blanks_6 (by decide) (fun c3 => ?_) (fun c3 => ?_)
    · rw [if_neg c3] at hf
      cases hf
      exact z_vret X hI d_Mod_blanks_22
    · rw [if_pos c3] at hf
      refine lv_aload_n hx hb d_Mod_blanks_9 rfl (lv_at hl 0 rfl) ?_
      refine lv_dup hx hb d_Mod_blanks_10 rfl ?_
      obtain ⟨x4, ex4, hf⟩ := z_bs hf
      refine z_getF X hI (k := 41) (ci := 12) (gI_s ex4) i_Mod rfl (by decide) wf_Mod_176 d_Mod_blanks_11 ?_
      refine lv_iconst (v := 1) hx hb d_Mod_blanks_14 (by decide) ?_
      refine lv_iadd hx hb d_Mod_blanks_15 ?_
      obtain ⟨h5, eh5, hf⟩ := z_bs hf
      refine z_putF X hI (k := 41) (ci := 12) (ty0 := t_Mod) eh5 i_Mod t_Mod_ok n_Mod rfl (by decide) wf_Mod_176 rfl rfl rfl d_Mod_blanks_16 (fun H locs hI => ?_)
      refine lv_goto (tgt := 0) hx hb d_Mod_blanks_19 (by decide) ?_
      exact ih v0 h5 _ _ _ hI (lv_sub hl [0] rfl) hf
def f_Mod_blanks (N : Nat) (v0 : Nat) (h : z_H) : Option z_H :=
  f_Mod_blanks_0 N N v0 h
set_option maxRecDepth 20000 in
set_option maxHeartbeats 2000000 in
theorem s_Mod_blanks {l : Launch} {D : va_G} {dA : Nat → ClassId} {B N : Nat} {v0 : Nat} {h h' : z_H} (hf : f_Mod_blanks N v0 h = some h') : z_Met l y_Mod_blanks prog_14_method_25_code 1 none 1 20 D dA B [.ref v0] h none h' := by
  refine z_of (by decide) (Nat.le_of_ble_eq_true rfl) (fun p e s m below meth c ls X hI hl => ?_)
  have hx := z_hx X
  have hb := z_hb X
  have hl : lv_has ls 1 [(0, .ref v0)] := hl
  unfold f_Mod_blanks at hf
  obtain ⟨locs, hlo⟩ : ∃ z : List Loc, z = [] := ⟨_, rfl⟩
  rw [← hlo] at hI ⊢
  exact s_Mod_blanks_0 X  N v0 h _ _ _ hI (lv_sub hl [0] rfl) hf
def f_Mod_replacement_228 (N : Nat) (k10 : Nat → Int32 → z_H → Option z_H) (v0 : Nat) (v1 : Int32) (h : z_H) : Option z_H :=
  z_b (gI h v0 12 41) fun x1 =>
  z_b (sF h v0 12 41 (.int (x1 + 2))) fun h2 =>
  k10 v0 v1 h2
set_option maxRecDepth 20000 in
set_option maxHeartbeats 2000000 in
theorem s_Mod_replacement_228 (X : z_X p s m args meth c prog_14_method_26_code 4 none Ts "StreamForgeModel" D dA B) {N : Nat} {h' : z_H} {k10 : Nat → Int32 → z_H → Option z_H} (hk10 : ∀ (v0 : Nat) (v1 : Int32) (h : z_H) (H : Heap) (locs : List Loc) (ls : Array Slot), z_I D dA B h s.heap H locs → lv_has ls 4 [(0, .ref v0), (1, .int v1)] → k10 v0 v1 h = some h' → W p l e (z_rm 1 22) s m args below meth c H locs 0 0 (MQ below (z_Q D dA B none h') args s 0 0 (fun q => B ≤ q)) (F0 m 10 ls [])) : ∀ (v0 : Nat) (v1 : Int32) (h : z_H) (H : Heap) (locs : List Loc) (ls : Array Slot), z_I D dA B h s.heap H locs → lv_has ls 4 [(0, .ref v0), (1, .int v1)] → f_Mod_replacement_228 N k10 v0 v1 h = some h' → W p l e (z_rm 1 22) s m args below meth c H locs 0 0 (MQ below (z_Q D dA B none h') args s 0 0 (fun q => B ≤ q)) (F0 m 228 ls []) := by
  have hx := z_hx X
  have hb := z_hb X
  intro v0 v1 h H locs ls hI hl hf
  unfold f_Mod_replacement_228 at hf
  refine lv_aload_n hx hb d_Mod_replacement_228 rfl (lv_at hl 0 rfl) ?_
  refine lv_dup hx hb d_Mod_replacement_229 rfl ?_
  obtain ⟨x1, ex1, hf⟩ := z_bs hf
  refine z_getF X hI (k := 41) (ci := 12) (gI_s ex1) i_Mod rfl (by decide) wf_Mod_176 d_Mod_replacement_230 ?_
  refine lv_iconst (v := 2) hx hb d_Mod_replacement_233 (by decide) ?_
  refine lv_iadd hx hb d_Mod_replacement_234 ?_
  obtain ⟨h2, eh2, hf⟩ := z_bs hf
  refine z_putF X hI (k := 41) (ci := 12) (ty0 := t_Mod) eh2 i_Mod t_Mod_ok n_Mod rfl (by decide) wf_Mod_176 rfl rfl rfl d_Mod_replacement_235 (fun H locs hI => ?_)
  refine lv_goto (tgt := 10) hx hb d_Mod_replacement_238 (by decide) ?_
  exact hk10 v0 v1 h2 _ _ _ hI (lv_sub hl [0, 1] rfl) hf
def f_Mod_replacement_197 (N : Nat) (k10 : Nat → Int32 → z_H → Option z_H) (v0 : Nat) (v1 : Int32) (v3 : Int32) (h : z_H) : Option z_H :=
  z_b (gO h v0 12) fun u1 =>
  z_b (f_Mod_keep N v0 v3 h) fun r2 =>
  f_Mod_replacement_228 N k10 v0 v1 r2
set_option maxRecDepth 20000 in
set_option maxHeartbeats 2000000 in
theorem s_Mod_replacement_197 (X : z_X p s m args meth c prog_14_method_26_code 4 none Ts "StreamForgeModel" D dA B) {N : Nat} {h' : z_H} {k10 : Nat → Int32 → z_H → Option z_H} (hk10 : ∀ (v0 : Nat) (v1 : Int32) (h : z_H) (H : Heap) (locs : List Loc) (ls : Array Slot), z_I D dA B h s.heap H locs → lv_has ls 4 [(0, .ref v0), (1, .int v1)] → k10 v0 v1 h = some h' → W p l e (z_rm 1 22) s m args below meth c H locs 0 0 (MQ below (z_Q D dA B none h') args s 0 0 (fun q => B ≤ q)) (F0 m 10 ls [])) : ∀ (v0 : Nat) (v1 : Int32) (v3 : Int32) (h : z_H) (H : Heap) (locs : List Loc) (ls : Array Slot), z_I D dA B h s.heap H locs → lv_has ls 4 [(0, .ref v0), (1, .int v1), (3, .int v3)] → f_Mod_replacement_197 N k10 v0 v1 v3 h = some h' → W p l e (z_rm 1 22) s m args below meth c H locs 0 0 (MQ below (z_Q D dA B none h') args s 0 0 (fun q => B ≤ q)) (F0 m 197 ls []) := by
  have hx := z_hx X
  have hb := z_hb X
  intro v0 v1 v3 h H locs ls hI hl hf
  unfold f_Mod_replacement_197 at hf
  refine lv_aload_n hx hb d_Mod_replacement_197 rfl (lv_at hl 0 rfl) ?_
  refine lv_iload_n hx hb d_Mod_replacement_198 rfl (lv_at hl 2 rfl) ?_
  obtain ⟨u1, eu1, hf⟩ := z_bs hf
  obtain ⟨r2, er2, hf⟩ := z_bs hf
  refine z_callV (As := [.int v3]) (rest := []) (r := none) (h' := r2) X hI eu1 (s_Mod_keep er2) rfl rfl wm_Mod_243 yi_Mod_keep rfl hl.1 rfl (Nat.le_of_ble_eq_true rfl) (by decide) (by decide) d_Mod_replacement_199 (fun H locs hI => ?_)
  refine W.eq (g2 := F0 m 202 ls []) rfl ?_
  refine lv_goto (tgt := 228) hx hb d_Mod_replacement_202 (by decide) ?_
  exact s_Mod_replacement_228 X hk10 v0 v1 r2 _ _ _ hI (lv_sub hl [0, 1] rfl) hf
def f_Mod_replacement_179 (N : Nat) (k10 : Nat → Int32 → z_H → Option z_H) (v0 : Nat) (v1 : Int32) (v3 : Int32) (h : z_H) : Option z_H :=
  if v3 = 38 then
  (f_Mod_replacement_197 N k10 v0 v1 v3 h)
  else
  (if v3 = 47 then
  (f_Mod_replacement_197 N k10 v0 v1 v3 h)
  else
  (if v3 = 92 then
  (f_Mod_replacement_197 N k10 v0 v1 v3 h)
  else
  (if v3 = 110 then
  (z_b (gO h v0 12) fun u8 =>
  z_b (f_Mod_keep N v0 10 h) fun r9 =>
  f_Mod_replacement_228 N k10 v0 v1 r9)
  else
  (z_b (gI h v0 12 41) fun x5 =>
  z_b (gO h v0 12) fun u6 =>
  z_b (f_Mod_wrong N v0 x5 h) fun r7 =>
  f_Mod_replacement_228 N k10 v0 v1 r7))))
set_option maxRecDepth 20000 in
set_option maxHeartbeats 2000000 in
theorem s_Mod_replacement_179 (X : z_X p s m args meth c prog_14_method_26_code 4 none Ts "StreamForgeModel" D dA B) {N : Nat} {h' : z_H} {k10 : Nat → Int32 → z_H → Option z_H} (hk10 : ∀ (v0 : Nat) (v1 : Int32) (h : z_H) (H : Heap) (locs : List Loc) (ls : Array Slot), z_I D dA B h s.heap H locs → lv_has ls 4 [(0, .ref v0), (1, .int v1)] → k10 v0 v1 h = some h' → W p l e (z_rm 1 22) s m args below meth c H locs 0 0 (MQ below (z_Q D dA B none h') args s 0 0 (fun q => B ≤ q)) (F0 m 10 ls [])) : ∀ (v0 : Nat) (v1 : Int32) (v3 : Int32) (h : z_H) (H : Heap) (locs : List Loc) (ls : Array Slot), z_I D dA B h s.heap H locs → lv_has ls 4 [(0, .ref v0), (1, .int v1), (3, .int v3)] → f_Mod_replacement_179 N k10 v0 v1 v3 h = some h' → W p l e (z_rm 1 22) s m args below meth c H locs 0 0 (MQ below (z_Q D dA B none h') args s 0 0 (fun q => B ≤ q)) (F0 m 179 ls []) := by
  have hx := z_hx X
  have hb := z_hb X
  intro v0 v1 v3 h H locs ls hI hl hf
  unfold f_Mod_replacement_179 at hf
  refine lv_iload_n hx hb d_Mod_replacement_179 rfl (lv_at hl 2 rfl) ?_
  refine lv_bipush (v := 38) hx hb d_Mod_replacement_180 (by decide) ?_
  refine lv_icmp_eq (tgt := 197) hx hb d_Mod_replacement_182 (by decide) (fun c1 => ?_) (fun c1 => ?_)
  · rw [if_pos c1] at hf
    exact s_Mod_replacement_197 X hk10 v0 v1 v3 h _ _ _ hI (lv_sub hl [0, 1, 2] rfl) hf
  · rw [if_neg c1] at hf
    refine lv_iload_n hx hb d_Mod_replacement_185 rfl (lv_at hl 2 rfl) ?_
    refine lv_bipush (v := 47) hx hb d_Mod_replacement_186 (by decide) ?_
    refine lv_icmp_eq (tgt := 197) hx hb d_Mod_replacement_188 (by decide) (fun c2 => ?_) (fun c2 => ?_)
    · rw [if_pos c2] at hf
      exact s_Mod_replacement_197 X hk10 v0 v1 v3 h _ _ _ hI (lv_sub hl [0, 1, 2] rfl) hf
    · rw [if_neg c2] at hf
      refine lv_iload_n hx hb d_Mod_replacement_191 rfl (lv_at hl 2 rfl) ?_
      refine lv_bipush (v := 92) hx hb d_Mod_replacement_192 (by decide) ?_
      refine lv_icmp_ne (tgt := 205) hx hb d_Mod_replacement_194 (by decide) (fun c3 => ?_) (fun c3 => ?_)
      · rw [if_neg c3] at hf
        refine lv_iload_n hx hb d_Mod_replacement_205 rfl (lv_at hl 2 rfl) ?_
        refine lv_bipush (v := 110) hx hb d_Mod_replacement_206 (by decide) ?_
        refine lv_icmp_ne (tgt := 220) hx hb d_Mod_replacement_208 (by decide) (fun c4 => ?_) (fun c4 => ?_)
        · rw [if_neg c4] at hf
          refine lv_aload_n hx hb d_Mod_replacement_220 rfl (lv_at hl 0 rfl) ?_
          refine lv_aload_n hx hb d_Mod_replacement_221 rfl (lv_at hl 0 rfl) ?_
          obtain ⟨x5, ex5, hf⟩ := z_bs hf
          refine z_getF X hI (k := 41) (ci := 12) (gI_s ex5) i_Mod rfl (by decide) wf_Mod_176 d_Mod_replacement_222 ?_
          obtain ⟨u6, eu6, hf⟩ := z_bs hf
          obtain ⟨r7, er7, hf⟩ := z_bs hf
          refine z_callV (As := [.int x5]) (rest := []) (r := none) (h' := r7) X hI eu6 (s_Mod_wrong er7) rfl rfl wm_Mod_187 yi_Mod_wrong rfl hl.1 rfl (Nat.le_of_ble_eq_true rfl) (by decide) (by decide) d_Mod_replacement_225 (fun H locs hI => ?_)
          refine W.eq (g2 := F0 m 228 ls []) rfl ?_
          exact s_Mod_replacement_228 X hk10 v0 v1 r7 _ _ _ hI (lv_sub hl [0, 1] rfl) hf
        · rw [if_pos c4] at hf
          refine lv_aload_n hx hb d_Mod_replacement_211 rfl (lv_at hl 0 rfl) ?_
          refine lv_bipush (v := 10) hx hb d_Mod_replacement_212 (by decide) ?_
          obtain ⟨u8, eu8, hf⟩ := z_bs hf
          obtain ⟨r9, er9, hf⟩ := z_bs hf
          refine z_callV (As := [.int 10]) (rest := []) (r := none) (h' := r9) X hI eu8 (s_Mod_keep er9) rfl rfl wm_Mod_243 yi_Mod_keep rfl hl.1 rfl (Nat.le_of_ble_eq_true rfl) (by decide) (by decide) d_Mod_replacement_214 (fun H locs hI => ?_)
          refine W.eq (g2 := F0 m 217 ls []) rfl ?_
          refine lv_goto (tgt := 228) hx hb d_Mod_replacement_217 (by decide) ?_
          exact s_Mod_replacement_228 X hk10 v0 v1 r9 _ _ _ hI (lv_sub hl [0, 1] rfl) hf
      · rw [if_pos c3] at hf
        exact s_Mod_replacement_197 X hk10 v0 v1 v3 h _ _ _ hI (lv_sub hl [0, 1, 2] rfl) hf
def f_Mod_replacement_241 (N : Nat)  (v0 : Nat) (v1 : Int32) (h : z_H) : Option z_H :=
  z_b (gI h v0 12 41) fun x1 =>
  z_b (sF h v0 12 41 (.int (x1 + 1))) fun h2 =>
  z_b (gR h2 v0 12 16) fun x3 =>
  z_b (gO h2 v0 12) fun u4 =>
  z_b (f_Mod_stored N v0 h2) fun r5 =>
  z_b (uI r5.2 x3 0 v1 (r5.1)) fun h6 =>
  some h6
set_option maxRecDepth 20000 in
set_option maxHeartbeats 2000000 in
theorem s_Mod_replacement_241 (X : z_X p s m args meth c prog_14_method_26_code 4 none Ts "StreamForgeModel" D dA B) {N : Nat} {h' : z_H}   : ∀ (v0 : Nat) (v1 : Int32) (h : z_H) (H : Heap) (locs : List Loc) (ls : Array Slot), z_I D dA B h s.heap H locs → lv_has ls 4 [(0, .ref v0), (1, .int v1)] → f_Mod_replacement_241 N  v0 v1 h = some h' → W p l e (z_rm 1 22) s m args below meth c H locs 0 0 (MQ below (z_Q D dA B none h') args s 0 0 (fun q => B ≤ q)) (F0 m 241 ls []) := by
  have hx := z_hx X
  have hb := z_hb X
  intro v0 v1 h H locs ls hI hl hf
  unfold f_Mod_replacement_241 at hf
  refine lv_aload_n hx hb d_Mod_replacement_241 rfl (lv_at hl 0 rfl) ?_
  refine lv_dup hx hb d_Mod_replacement_242 rfl ?_
  obtain ⟨x1, ex1, hf⟩ := z_bs hf
  refine z_getF X hI (k := 41) (ci := 12) (gI_s ex1) i_Mod rfl (by decide) wf_Mod_176 d_Mod_replacement_243 ?_
  refine lv_iconst (v := 1) hx hb d_Mod_replacement_246 (by decide) ?_
  refine lv_iadd hx hb d_Mod_replacement_247 ?_
  obtain ⟨h2, eh2, hf⟩ := z_bs hf
  refine z_putF X hI (k := 41) (ci := 12) (ty0 := t_Mod) eh2 i_Mod t_Mod_ok n_Mod rfl (by decide) wf_Mod_176 rfl rfl rfl d_Mod_replacement_248 (fun H locs hI => ?_)
  refine lv_aload_n hx hb d_Mod_replacement_251 rfl (lv_at hl 0 rfl) ?_
  obtain ⟨x3, ex3, hf⟩ := z_bs hf
  refine z_getF X hI (k := 16) (ci := 12) (gR_s ex3) i_Mod rfl (by decide) wf_Mod_44 d_Mod_replacement_252 ?_
  refine lv_iload_n hx hb d_Mod_replacement_255 rfl (lv_at hl 1 rfl) ?_
  refine lv_aload_n hx hb d_Mod_replacement_256 rfl (lv_at hl 0 rfl) ?_
  obtain ⟨u4, eu4, hf⟩ := z_bs hf
  obtain ⟨r5, er5, hf⟩ := z_bs hf
  refine z_callV (As := []) (rest := [.int v1, .ref x3]) (r := (some (.int r5.1))) (h' := r5.2) X hI eu4 (s_Mod_stored er5) rfl rfl wm_Mod_240 yi_Mod_stored rfl hl.1 rfl (Nat.le_of_ble_eq_true rfl) (by decide) (by decide) d_Mod_replacement_257 (fun H locs hI => ?_)
  refine W.eq (g2 := F0 m 260 ls [.int (r5.1), .int v1, .ref x3]) rfl ?_
  obtain ⟨h6, eh6, hf⟩ := z_bs hf
  refine z_iast X hI eh6 d_Mod_replacement_260 (fun H locs hI => ?_)
  cases hf
  exact z_vret X hI d_Mod_replacement_261
def f_Mod_replacement_10 (N : Nat)  : Nat → Nat → Int32 → z_H → Option z_H
  | 0, _, _, _ => none
  | n + 1, v0, v1, h =>
    z_b (gI h v0 12 48) fun x1 =>
    if x1 = 0 then
    (z_b (gO h v0 12) fun u3 =>
    z_b (f_Mod_here N v0 h) fun r4 =>
    if (r4.1) = 47 then
    (f_Mod_replacement_241 N v0 v1 r4.2)
    else
    (z_b (gO r4.2 v0 12) fun u6 =>
    z_b (f_Mod_here N v0 r4.2) fun r7 =>
    z_b (some (r7.1)) fun x8 =>
    z_b (gO r7.2 v0 12) fun u9 =>
    z_b (f_Mod_behind N v0 r7.2) fun r10 =>
    z_b (some (r10.1)) fun x11 =>
    if x8 = (-1) then
    (z_b (gI r10.2 v0 12 3) fun x40 =>
    z_b (gO r10.2 v0 12) fun u41 =>
    z_b (f_Mod_wrong N v0 x40 r10.2) fun r42 =>
    (f_Mod_replacement_10 N  n) v0 v1 r42)
    else
    (if x8 = 10 then
    (z_b (gI r10.2 v0 12 41) fun x37 =>
    z_b (gO r10.2 v0 12) fun u38 =>
    z_b (f_Mod_wrong N v0 x37 r10.2) fun r39 =>
    (f_Mod_replacement_10 N  n) v0 v1 r39)
    else
    (if x8 = 38 then
    (z_b (gO r10.2 v0 12) fun u33 =>
    z_b (f_Mod_keep N v0 200 r10.2) fun r34 =>
    z_b (gI r34 v0 12 41) fun x35 =>
    z_b (sF r34 v0 12 41 (.int (x35 + 1))) fun h36 =>
    (f_Mod_replacement_10 N  n) v0 v1 h36)
    else
    (if x8 = 92 then
    (if x11 = (-1) then
    (z_b (gI r10.2 v0 12 3) fun x26 =>
    z_b (gO r10.2 v0 12) fun u27 =>
    z_b (f_Mod_wrong N v0 x26 r10.2) fun r28 =>
    f_Mod_replacement_228 N (f_Mod_replacement_10 N  n) v0 v1 r28)
    else
    (z_b (f_Mod_in N x11 49 51 r10.2) fun r17 =>
    if (r17.1) = 0 then
    (f_Mod_replacement_179 N (f_Mod_replacement_10 N  n) v0 v1 x11 r17.2)
    else
    (z_b (gR r17.2 v0 12 30) fun x19 =>
    z_b (gR r17.2 v0 12 14) fun x20 =>
    z_b (aI r17.2 x20 0 v1) fun x21 =>
    z_b (aI r17.2 x19 0 x21) fun x22 =>
    if x22 < (x11 - 48) then
    (f_Mod_replacement_179 N (f_Mod_replacement_10 N  n) v0 v1 x11 r17.2)
    else
    (z_b (gO r17.2 v0 12) fun u24 =>
    z_b (f_Mod_keep N v0 ((200 + x11) - 48) r17.2) fun r25 =>
    f_Mod_replacement_228 N (f_Mod_replacement_10 N  n) v0 v1 r25))))
    else
    (z_b (gO r10.2 v0 12) fun u29 =>
    z_b (f_Mod_keep N v0 x8 r10.2) fun r30 =>
    z_b (gI r30 v0 12 41) fun x31 =>
    z_b (sF r30 v0 12 41 (.int (x31 + 1))) fun h32 =>
    (f_Mod_replacement_10 N  n) v0 v1 h32))))))
    else
    (f_Mod_replacement_241 N v0 v1 h)
set_option maxRecDepth 20000 in
set_option maxHeartbeats 2000000 in
theorem s_Mod_replacement_10 (X : z_X p s m args meth c prog_14_method_26_code 4 none Ts "StreamForgeModel" D dA B) {N : Nat} {h' : z_H}   : ∀ n : Nat, ∀ (v0 : Nat) (v1 : Int32) (h : z_H) (H : Heap) (locs : List Loc) (ls : Array Slot), z_I D dA B h s.heap H locs → lv_has ls 4 [(0, .ref v0), (1, .int v1)] → f_Mod_replacement_10 N  n v0 v1 h = some h' → W p l e (z_rm 1 22) s m args below meth c H locs 0 0 (MQ below (z_Q D dA B none h') args s 0 0 (fun q => B ≤ q)) (F0 m 10 ls []) := by
  have hx := z_hx X
  have hb := z_hb X
  intro n
  induction n with
  | zero => intro v0 v1 h H locs ls hI hl hf; rw [f_Mod_replacement_10] at hf; cases hf
  | succ n ih =>
    intro v0 v1 h H locs ls hI hl hf
    rw [f_Mod_replacement_10] at hf
    refine lv_aload_n hx hb d_Mod_replacement_10 rfl (lv_at hl 0 rfl) ?_
    obtain ⟨x1, ex1, hf⟩ := z_bs hf
    refine z_getF X hI (k := 48) (ci := 12) (gI_s ex1) i_Mod rfl (by decide) wf_Mod_179 d_Mod_replacement_11 ?_
    refine lv_if_ne (tgt := 241) hx hb d_Mod_replacement_14 (by decide) (fun c2 => ?_) (fun c2 => ?_)
    · rw [if_neg c2] at hf
      exact s_Mod_replacement_241 X  v0 v1 h _ _ _ hI (lv_sub hl [0, 1] rfl) hf
    · rw [if_pos c2] at hf
      refine lv_aload_n hx hb d_Mod_replacement_17 rfl (lv_at hl 0 rfl) ?_
      obtain ⟨u3, eu3, hf⟩ := z_bs hf
      obtain ⟨r4, er4, hf⟩ := z_bs hf
      refine z_callV (As := []) (rest := []) (r := (some (.int r4.1))) (h' := r4.2) X hI eu3 (s_Mod_here er4) rfl rfl wm_Mod_183 yi_Mod_here rfl hl.1 rfl (Nat.le_of_ble_eq_true rfl) (by decide) (by decide) d_Mod_replacement_18 (fun H locs hI => ?_)
      refine W.eq (g2 := F0 m 21 ls [.int (r4.1)]) rfl ?_
      refine lv_bipush (v := 47) hx hb d_Mod_replacement_21 (by decide) ?_
      refine lv_icmp_eq (tgt := 241) hx hb d_Mod_replacement_23 (by decide) (fun c5 => ?_) (fun c5 => ?_)
      · rw [if_pos c5] at hf
        exact s_Mod_replacement_241 X  v0 v1 r4.2 _ _ _ hI (lv_sub hl [0, 1] rfl) hf
      · rw [if_neg c5] at hf
        refine lv_aload_n hx hb d_Mod_replacement_26 rfl (lv_at hl 0 rfl) ?_
        obtain ⟨u6, eu6, hf⟩ := z_bs hf
        obtain ⟨r7, er7, hf⟩ := z_bs hf
        refine z_callV (As := []) (rest := []) (r := (some (.int r7.1))) (h' := r7.2) X hI eu6 (s_Mod_here er7) rfl rfl wm_Mod_183 yi_Mod_here rfl hl.1 rfl (Nat.le_of_ble_eq_true rfl) (by decide) (by decide) d_Mod_replacement_27 (fun H locs hI => ?_)
        refine W.eq (g2 := F0 m 30 ls [.int (r7.1)]) rfl ?_
        obtain ⟨x8, ex8, hf⟩ := z_bs hf
        refine z_topi (Option.some.inj ex8) ?_
        refine lv_istore_n (lv' := [(2, .int x8), (0, .ref v0), (1, .int v1)]) hx hb d_Mod_replacement_30 rfl hl (by decide) rfl (fun ls hl => ?_)
        refine lv_aload_n hx hb d_Mod_replacement_31 rfl (lv_at hl 1 rfl) ?_
        obtain ⟨u9, eu9, hf⟩ := z_bs hf
        obtain ⟨r10, er10, hf⟩ := z_bs hf
        refine z_callV (As := []) (rest := []) (r := (some (.int r10.1))) (h' := r10.2) X hI eu9 (s_Mod_behind er10) rfl rfl wm_Mod_200 yi_Mod_behind rfl hl.1 rfl (Nat.le_of_ble_eq_true rfl) (by decide) (by decide) d_Mod_replacement_32 (fun H locs hI => ?_)
        refine W.eq (g2 := F0 m 35 ls [.int (r10.1)]) rfl ?_
        obtain ⟨x11, ex11, hf⟩ := z_bs hf
        refine z_topi (Option.some.inj ex11) ?_
        refine lv_istore_n (lv' := [(3, .int x11), (2, .int x8), (0, .ref v0), (1, .int v1)]) hx hb d_Mod_replacement_35 rfl hl (by decide) rfl (fun ls hl => ?_)
        refine lv_iload_n hx hb d_Mod_replacement_36 rfl (lv_at hl 1 rfl) ?_
        refine lv_iconst (v := (-1)) hx hb d_Mod_replacement_37 (by decide) ?_
        refine lv_icmp_ne (tgt := 52) hx hb d_Mod_replacement_38 (by decide) (fun c12 => ?_) (fun c12 => ?_)
        · rw [if_neg c12] at hf
          refine lv_iload_n hx hb d_Mod_replacement_52 rfl (lv_at hl 1 rfl) ?_
          refine lv_bipush (v := 10) hx hb d_Mod_replacement_53 (by decide) ?_
          refine lv_icmp_ne (tgt := 69) hx hb d_Mod_replacement_55 (by decide) (fun c13 => ?_) (fun c13 => ?_)
          · rw [if_neg c13] at hf
            refine lv_iload_n hx hb d_Mod_replacement_69 rfl (lv_at hl 1 rfl) ?_
            refine lv_bipush (v := 38) hx hb d_Mod_replacement_70 (by decide) ?_
            refine lv_icmp_ne (tgt := 95) hx hb d_Mod_replacement_72 (by decide) (fun c14 => ?_) (fun c14 => ?_)
            · rw [if_neg c14] at hf
              refine lv_iload_n hx hb d_Mod_replacement_95 rfl (lv_at hl 1 rfl) ?_
              refine lv_bipush (v := 92) hx hb d_Mod_replacement_96 (by decide) ?_
              refine lv_icmp_eq (tgt := 119) hx hb d_Mod_replacement_98 (by decide) (fun c15 => ?_) (fun c15 => ?_)
              · rw [if_pos c15] at hf
                refine lv_iload_n hx hb d_Mod_replacement_119 rfl (lv_at hl 0 rfl) ?_
                refine lv_iconst (v := (-1)) hx hb d_Mod_replacement_120 (by decide) ?_
                refine lv_icmp_ne (tgt := 135) hx hb d_Mod_replacement_121 (by decide) (fun c16 => ?_) (fun c16 => ?_)
                · rw [if_neg c16] at hf
                  refine lv_iload_n hx hb d_Mod_replacement_135 rfl (lv_at hl 0 rfl) ?_
                  refine lv_bipush (v := 49) hx hb d_Mod_replacement_136 (by decide) ?_
                  refine lv_bipush (v := 51) hx hb d_Mod_replacement_138 (by decide) ?_
                  obtain ⟨r17, er17, hf⟩ := z_bs hf
                  refine z_callS (As := [.int x11, .int 49, .int 51]) (rest := []) (r := (some (.int r17.1))) (h' := r17.2) X hI (s_Mod_in er17) rfl wm_Mod_154 yi_Mod_in rfl hl.1 rfl (Nat.le_of_ble_eq_true rfl) (by decide) (by decide) d_Mod_replacement_140 (fun H locs hI => ?_)
                  refine W.eq (g2 := F0 m 143 ls [.int (r17.1)]) rfl ?_
                  refine lv_if_eq (tgt := 179) hx hb d_Mod_replacement_143 (by decide) (fun c18 => ?_) (fun c18 => ?_)
                  · rw [if_pos c18] at hf
                    exact s_Mod_replacement_179 X ih v0 v1 x11 r17.2 _ _ _ hI (lv_sub hl [2, 3, 0] rfl) hf
                  · rw [if_neg c18] at hf
                    refine lv_iload_n hx hb d_Mod_replacement_146 rfl (lv_at hl 0 rfl) ?_
                    refine lv_bipush (v := 48) hx hb d_Mod_replacement_147 (by decide) ?_
                    refine lv_isub hx hb d_Mod_replacement_149 ?_
                    refine lv_aload_n hx hb d_Mod_replacement_150 rfl (lv_at hl 2 rfl) ?_
                    obtain ⟨x19, ex19, hf⟩ := z_bs hf
                    refine z_getF X hI (k := 30) (ci := 12) (gR_s ex19) i_Mod rfl (by decide) wf_Mod_87 d_Mod_replacement_151 ?_
                    refine lv_aload_n hx hb d_Mod_replacement_154 rfl (lv_at hl 2 rfl) ?_
                    obtain ⟨x20, ex20, hf⟩ := z_bs hf
                    refine z_getF X hI (k := 14) (ci := 12) (gR_s ex20) i_Mod rfl (by decide) wf_Mod_38 d_Mod_replacement_155 ?_
                    refine lv_iload_n hx hb d_Mod_replacement_158 rfl (lv_at hl 3 rfl) ?_
                    obtain ⟨x21, ex21, hf⟩ := z_bs hf
                    refine z_iald X hI ex21 d_Mod_replacement_159 ?_
                    obtain ⟨x22, ex22, hf⟩ := z_bs hf
                    refine z_iald X hI ex22 d_Mod_replacement_160 ?_
                    refine lv_icmp_gt (tgt := 179) hx hb d_Mod_replacement_161 (by decide) (fun c23 => ?_) (fun c23 => ?_)
                    · rw [if_pos c23] at hf
                      exact s_Mod_replacement_179 X ih v0 v1 x11 r17.2 _ _ _ hI (lv_sub hl [2, 3, 0] rfl) hf
                    · rw [if_neg c23] at hf
                      refine lv_aload_n hx hb d_Mod_replacement_164 rfl (lv_at hl 2 rfl) ?_
                      refine lv_sipush (v := 200) hx hb d_Mod_replacement_165 (by decide) ?_
                      refine lv_iload_n hx hb d_Mod_replacement_168 rfl (lv_at hl 0 rfl) ?_
                      refine lv_iadd hx hb d_Mod_replacement_169 ?_
                      refine lv_bipush (v := 48) hx hb d_Mod_replacement_170 (by decide) ?_
                      refine lv_isub hx hb d_Mod_replacement_172 ?_
                      obtain ⟨u24, eu24, hf⟩ := z_bs hf
                      obtain ⟨r25, er25, hf⟩ := z_bs hf
                      refine z_callV (As := [.int ((200 + x11) - 48)]) (rest := []) (r := none) (h' := r25) X hI eu24 (s_Mod_keep er25) rfl rfl wm_Mod_243 yi_Mod_keep rfl hl.1 rfl (Nat.le_of_ble_eq_true rfl) (by decide) (by decide) d_Mod_replacement_173 (fun H locs hI => ?_)
                      refine W.eq (g2 := F0 m 176 ls []) rfl ?_
                      refine lv_goto (tgt := 228) hx hb d_Mod_replacement_176 (by decide) ?_
                      exact s_Mod_replacement_228 X ih v0 v1 r25 _ _ _ hI (lv_sub hl [2, 3] rfl) hf
                · rw [if_pos c16] at hf
                  refine lv_aload_n hx hb d_Mod_replacement_124 rfl (lv_at hl 2 rfl) ?_
                  refine lv_aload_n hx hb d_Mod_replacement_125 rfl (lv_at hl 2 rfl) ?_
                  obtain ⟨x26, ex26, hf⟩ := z_bs hf
                  refine z_getF X hI (k := 3) (ci := 12) (gI_s ex26) i_Mod rfl (by decide) wf_Mod_166 d_Mod_replacement_126 ?_
                  obtain ⟨u27, eu27, hf⟩ := z_bs hf
                  obtain ⟨r28, er28, hf⟩ := z_bs hf
                  refine z_callV (As := [.int x26]) (rest := []) (r := none) (h' := r28) X hI eu27 (s_Mod_wrong er28) rfl rfl wm_Mod_187 yi_Mod_wrong rfl hl.1 rfl (Nat.le_of_ble_eq_true rfl) (by decide) (by decide) d_Mod_replacement_129 (fun H locs hI => ?_)
                  refine W.eq (g2 := F0 m 132 ls []) rfl ?_
                  refine lv_goto (tgt := 228) hx hb d_Mod_replacement_132 (by decide) ?_
                  exact s_Mod_replacement_228 X ih v0 v1 r28 _ _ _ hI (lv_sub hl [2, 3] rfl) hf
              · rw [if_neg c15] at hf
                refine lv_aload_n hx hb d_Mod_replacement_101 rfl (lv_at hl 2 rfl) ?_
                refine lv_iload_n hx hb d_Mod_replacement_102 rfl (lv_at hl 1 rfl) ?_
                obtain ⟨u29, eu29, hf⟩ := z_bs hf
                obtain ⟨r30, er30, hf⟩ := z_bs hf
                refine z_callV (As := [.int x8]) (rest := []) (r := none) (h' := r30) X hI eu29 (s_Mod_keep er30) rfl rfl wm_Mod_243 yi_Mod_keep rfl hl.1 rfl (Nat.le_of_ble_eq_true rfl) (by decide) (by decide) d_Mod_replacement_103 (fun H locs hI => ?_)
                refine W.eq (g2 := F0 m 106 ls []) rfl ?_
                refine lv_aload_n hx hb d_Mod_replacement_106 rfl (lv_at hl 2 rfl) ?_
                refine lv_dup hx hb d_Mod_replacement_107 rfl ?_
                obtain ⟨x31, ex31, hf⟩ := z_bs hf
                refine z_getF X hI (k := 41) (ci := 12) (gI_s ex31) i_Mod rfl (by decide) wf_Mod_176 d_Mod_replacement_108 ?_
                refine lv_iconst (v := 1) hx hb d_Mod_replacement_111 (by decide) ?_
                refine lv_iadd hx hb d_Mod_replacement_112 ?_
                obtain ⟨h32, eh32, hf⟩ := z_bs hf
                refine z_putF X hI (k := 41) (ci := 12) (ty0 := t_Mod) eh32 i_Mod t_Mod_ok n_Mod rfl (by decide) wf_Mod_176 rfl rfl rfl d_Mod_replacement_113 (fun H locs hI => ?_)
                refine lv_goto (tgt := 238) hx hb d_Mod_replacement_116 (by decide) ?_
                refine lv_goto (tgt := 10) hx hb d_Mod_replacement_238 (by decide) ?_
                exact ih v0 v1 h32 _ _ _ hI (lv_sub hl [2, 3] rfl) hf
            · rw [if_pos c14] at hf
              refine lv_aload_n hx hb d_Mod_replacement_75 rfl (lv_at hl 2 rfl) ?_
              refine lv_sipush (v := 200) hx hb d_Mod_replacement_76 (by decide) ?_
              obtain ⟨u33, eu33, hf⟩ := z_bs hf
              obtain ⟨r34, er34, hf⟩ := z_bs hf
              refine z_callV (As := [.int 200]) (rest := []) (r := none) (h' := r34) X hI eu33 (s_Mod_keep er34) rfl rfl wm_Mod_243 yi_Mod_keep rfl hl.1 rfl (Nat.le_of_ble_eq_true rfl) (by decide) (by decide) d_Mod_replacement_79 (fun H locs hI => ?_)
              refine W.eq (g2 := F0 m 82 ls []) rfl ?_
              refine lv_aload_n hx hb d_Mod_replacement_82 rfl (lv_at hl 2 rfl) ?_
              refine lv_dup hx hb d_Mod_replacement_83 rfl ?_
              obtain ⟨x35, ex35, hf⟩ := z_bs hf
              refine z_getF X hI (k := 41) (ci := 12) (gI_s ex35) i_Mod rfl (by decide) wf_Mod_176 d_Mod_replacement_84 ?_
              refine lv_iconst (v := 1) hx hb d_Mod_replacement_87 (by decide) ?_
              refine lv_iadd hx hb d_Mod_replacement_88 ?_
              obtain ⟨h36, eh36, hf⟩ := z_bs hf
              refine z_putF X hI (k := 41) (ci := 12) (ty0 := t_Mod) eh36 i_Mod t_Mod_ok n_Mod rfl (by decide) wf_Mod_176 rfl rfl rfl d_Mod_replacement_89 (fun H locs hI => ?_)
              refine lv_goto (tgt := 238) hx hb d_Mod_replacement_92 (by decide) ?_
              refine lv_goto (tgt := 10) hx hb d_Mod_replacement_238 (by decide) ?_
              exact ih v0 v1 h36 _ _ _ hI (lv_sub hl [2, 3] rfl) hf
          · rw [if_pos c13] at hf
            refine lv_aload_n hx hb d_Mod_replacement_58 rfl (lv_at hl 2 rfl) ?_
            refine lv_aload_n hx hb d_Mod_replacement_59 rfl (lv_at hl 2 rfl) ?_
            obtain ⟨x37, ex37, hf⟩ := z_bs hf
            refine z_getF X hI (k := 41) (ci := 12) (gI_s ex37) i_Mod rfl (by decide) wf_Mod_176 d_Mod_replacement_60 ?_
            obtain ⟨u38, eu38, hf⟩ := z_bs hf
            obtain ⟨r39, er39, hf⟩ := z_bs hf
            refine z_callV (As := [.int x37]) (rest := []) (r := none) (h' := r39) X hI eu38 (s_Mod_wrong er39) rfl rfl wm_Mod_187 yi_Mod_wrong rfl hl.1 rfl (Nat.le_of_ble_eq_true rfl) (by decide) (by decide) d_Mod_replacement_63 (fun H locs hI => ?_)
            refine W.eq (g2 := F0 m 66 ls []) rfl ?_
            refine lv_goto (tgt := 238) hx hb d_Mod_replacement_66 (by decide) ?_
            refine lv_goto (tgt := 10) hx hb d_Mod_replacement_238 (by decide) ?_
            exact ih v0 v1 r39 _ _ _ hI (lv_sub hl [2, 3] rfl) hf
        · rw [if_pos c12] at hf
          refine lv_aload_n hx hb d_Mod_replacement_41 rfl (lv_at hl 2 rfl) ?_
          refine lv_aload_n hx hb d_Mod_replacement_42 rfl (lv_at hl 2 rfl) ?_
          obtain ⟨x40, ex40, hf⟩ := z_bs hf
          refine z_getF X hI (k := 3) (ci := 12) (gI_s ex40) i_Mod rfl (by decide) wf_Mod_166 d_Mod_replacement_43 ?_
          obtain ⟨u41, eu41, hf⟩ := z_bs hf
          obtain ⟨r42, er42, hf⟩ := z_bs hf
          refine z_callV (As := [.int x40]) (rest := []) (r := none) (h' := r42) X hI eu41 (s_Mod_wrong er42) rfl rfl wm_Mod_187 yi_Mod_wrong rfl hl.1 rfl (Nat.le_of_ble_eq_true rfl) (by decide) (by decide) d_Mod_replacement_46 (fun H locs hI => ?_)
          refine W.eq (g2 := F0 m 49 ls []) rfl ?_
          refine lv_goto (tgt := 238) hx hb d_Mod_replacement_49 (by decide) ?_
          refine lv_goto (tgt := 10) hx hb d_Mod_replacement_238 (by decide) ?_
          exact ih v0 v1 r42 _ _ _ hI (lv_sub hl [2, 3] rfl) hf
def f_Mod_replacement (N : Nat) (v0 : Nat) (v1 : Int32) (h : z_H) : Option z_H :=
  z_b (gR h v0 12 15) fun x1 =>
  z_b (gO h v0 12) fun u2 =>
  z_b (f_Mod_stored N v0 h) fun r3 =>
  z_b (uI r3.2 x1 0 v1 (r3.1)) fun h4 =>
  f_Mod_replacement_10 N N v0 v1 h4
set_option maxRecDepth 20000 in
set_option maxHeartbeats 2000000 in
theorem s_Mod_replacement {l : Launch} {D : va_G} {dA : Nat → ClassId} {B N : Nat} {v0 : Nat} {v1 : Int32} {h h' : z_H} (hf : f_Mod_replacement N v0 v1 h = some h') : z_Met l y_Mod_replacement prog_14_method_26_code 4 none 1 22 D dA B [.ref v0, .int v1] h none h' := by
  refine z_of (by decide) (Nat.le_of_ble_eq_true rfl) (fun p e s m below meth c ls X hI hl => ?_)
  have hx := z_hx X
  have hb := z_hb X
  have hl : lv_has ls 4 [(0, .ref v0), (1, .int v1)] := hl
  unfold f_Mod_replacement at hf
  obtain ⟨locs, hlo⟩ : ∃ z : List Loc, z = [] := ⟨_, rfl⟩
  rw [← hlo] at hI ⊢
  refine lv_aload_n hx hb d_Mod_replacement_0 rfl (lv_at hl 0 rfl) ?_
  obtain ⟨x1, ex1, hf⟩ := z_bs hf
  refine z_getF X hI (k := 15) (ci := 12) (gR_s ex1) i_Mod rfl (by decide) wf_Mod_41 d_Mod_replacement_1 ?_
  refine lv_iload_n hx hb d_Mod_replacement_4 rfl (lv_at hl 1 rfl) ?_
  refine lv_aload_n hx hb d_Mod_replacement_5 rfl (lv_at hl 0 rfl) ?_
  obtain ⟨u2, eu2, hf⟩ := z_bs hf
  obtain ⟨r3, er3, hf⟩ := z_bs hf
  refine z_callV (As := []) (rest := [.int v1, .ref x1]) (r := (some (.int r3.1))) (h' := r3.2) X hI eu2 (s_Mod_stored er3) rfl rfl wm_Mod_240 yi_Mod_stored rfl hl.1 rfl (Nat.le_of_ble_eq_true rfl) (by decide) (by decide) d_Mod_replacement_6 (fun H locs hI => ?_)
  refine W.eq (g2 := F0 m 9 ls [.int (r3.1), .int v1, .ref x1]) rfl ?_
  obtain ⟨h4, eh4, hf⟩ := z_bs hf
  refine z_iast X hI eh4 d_Mod_replacement_9 (fun H locs hI => ?_)
  exact s_Mod_replacement_10 X  N v0 v1 h4 _ _ _ hI (lv_sub hl [0, 1] rfl) hf
end
