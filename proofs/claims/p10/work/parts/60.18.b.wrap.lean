def f_Law_script (N : Nat) (v0 : Nat) (v1 : Int64) (v3 : Nat) (h : z_H) : Option (Int32 × z_H) :=
  z_b (gO h v0 11) fun u1 =>
  z_b (f_SF_script N v0 v1 h) fun r2 =>
  zw_k r2 (fun x3 h4 => z_b (uL h4 v3 0 (Int32.toInt64 x3)) fun h5 => some (0, h5)) (fun E h4 => if E = xE1 then some (1, h4) else if E = xE2 then some (2, h4) else none)
set_option maxRecDepth 20000 in
set_option maxHeartbeats 2000000 in
theorem s_Law_script {l : Launch} (hlt : l.stackTraces = false) {D : va_G} {dA : Nat → ClassId} {B N : Nat} {v0 : Nat} {v1 : Int64} {v3 : Nat} {h h' : z_H} {r : Int32} (hf : f_Law_script N v0 v1 v3 h = some (r, h')) : zw_Met l y_Law_script method_3_code 5 (some .int) [(0, 9, 12, 13), (0, 9, 16, 15)] 7 118 D dA B [.ref v0, .long v1, .ref v3] h (some (.int r)) h' := by
  refine zw_of (by decide) (Nat.le_of_ble_eq_true rfl) (fun p e s m below meth c ls X hh9 hSt hI hl => ?_)
  have hx := z_hx X
  have hb := z_hb X
  have hl : lv_has ls 5 [(0, .ref v0), (1, .long v1), (3, .ref v3)] := hl
  unfold f_Law_script at hf
  obtain ⟨locs, hlo⟩ : ∃ z : List Loc, z = [] := ⟨_, rfl⟩
  rw [← hlo] at hI ⊢
  refine lv_aload_n hx hb d_Law_script_0 rfl (lv_at hl 2 rfl) ?_
  refine lv_iconst (v := 0) hx hb d_Law_script_1 (by decide) ?_
  refine lv_aload_n hx hb d_Law_script_2 rfl (lv_at hl 0 rfl) ?_
  refine lv_lload_n hx hb d_Law_script_3 rfl (lv_at hl 1 rfl) ?_
  obtain ⟨u1, eu1, hf⟩ := z_bs hf
  obtain ⟨r2, er2, hf⟩ := z_bs hf
  obtain ⟨q2, h4⟩ := r2
  rcases q2 with x3 | E
  · have hf := zw_kl hf
    refine zx_callV (r := .inl (some (.int x3))) (As := [.long v1]) (rest := [.int 0, .ref v3]) X hSt hI eu1 (s_SF_script hlt er2) rfl rfl wm_Law_7 yi_SF_script rfl hl.1 rfl (Nat.le_of_ble_eq_true rfl) (by decide) (by decide) d_Law_script_4 (fun v er H locs hI => ?_) (fun E er => by cases er)
    cases er
    refine W.eq (g2 := F0 m 7 ls [.int x3, .int 0, .ref v3]) rfl ?_
    refine lv_i2l hx hb d_Law_script_7 rfl ?_
    obtain ⟨h5, eh5, hf⟩ := z_bs hf
    refine z_last X hI eh5 d_Law_script_8 (fun H locs hI => ?_)
    refine lv_goto (tgt := 20) hx hb d_Law_script_9 (by decide) ?_
    refine lv_iconst (v := 0) hx hb d_Law_script_20 (by decide) ?_
    cases hf
    exact zw_ret (by decide) (by decide) (z_iret X hI d_Law_script_21)
  · have hf := zw_kr hf
    by_cases c0 : E = xE1
    · rw [if_pos c0] at hf
      subst c0
      cases hf
      refine zx_callV (r := .inr xE1) (As := [.long v1]) (rest := [.int 0, .ref v3]) X hSt hI eu1 (s_SF_script hlt er2) rfl rfl wm_Law_7 yi_SF_script rfl hl.1 rfl (Nat.le_of_ble_eq_true rfl) (by decide) (by decide) d_Law_script_4 (fun v er => by cases er) (fun E er H locs q ce hI hce hcv hcl => ?_)
      cases er
      refine zw_catch X hSt hh9 [] 0 9 12 13 [(0, 9, 16, 15)] rfl (by simp only [List.forall_mem_cons, List.not_mem_nil, false_implies, implies_true, and_true]) ⟨by decide, by decide⟩ (by decide) wl_Law_13 (List.mem_of_getElem? (i := 7) rfl) hce hcv hcl ?_
      refine lv_astore (lv' := [(4, .ref q), (0, .ref v0), (1, .long v1), (3, .ref v3)]) hx hb d_Law_script_12 hl (by decide) rfl (fun ls hl => ?_)
      refine lv_iconst (v := 1) hx hb d_Law_script_14 (by decide) ?_
      exact zw_ret (by decide) (by decide) (z_iret X hI d_Law_script_15)
    · rw [if_neg c0] at hf
      by_cases c1 : E = xE2
      · rw [if_pos c1] at hf
        subst c1
        cases hf
        refine zx_callV (r := .inr xE2) (As := [.long v1]) (rest := [.int 0, .ref v3]) X hSt hI eu1 (s_SF_script hlt er2) rfl rfl wm_Law_7 yi_SF_script rfl hl.1 rfl (Nat.le_of_ble_eq_true rfl) (by decide) (by decide) d_Law_script_4 (fun v er => by cases er) (fun E er H locs q ce hI hce hcv hcl => ?_)
        cases er
        refine zw_catch X hSt hh9 [(0, 9, 12, 13)] 0 9 16 15 [] rfl (by simp only [List.forall_mem_cons, List.not_mem_nil, false_implies, implies_true, and_true]; exact ⟨by decide, xE1, wl_Law_13, List.mem_of_getElem? (i := 11) rfl⟩) ⟨by decide, by decide⟩ (by decide) wl_Law_15 (List.mem_of_getElem? (i := 8) rfl) hce hcv hcl ?_
        refine lv_astore (lv' := [(4, .ref q), (0, .ref v0), (1, .long v1), (3, .ref v3)]) hx hb d_Law_script_16 hl (by decide) rfl (fun ls hl => ?_)
        refine lv_iconst (v := 2) hx hb d_Law_script_18 (by decide) ?_
        exact zw_ret (by decide) (by decide) (z_iret X hI d_Law_script_19)
      · rw [if_neg c1] at hf
        cases hf
def f_Law_clear (N : Nat) (v0 : Nat) (v1 : Int32) (v2 : Nat) (h : z_H) : Option (Int32 × z_H) :=
  z_b (gO h v0 11) fun u1 =>
  z_b (f_SF_clear N v0 v1 h) fun r2 =>
  zw_k r2 (fun x3 h4 => z_b (uL h4 v2 0 (Int32.toInt64 x3)) fun h5 => some (0, h5)) (fun E h4 => if E = xE1 then some (1, h4) else none)
set_option maxRecDepth 20000 in
set_option maxHeartbeats 2000000 in
theorem s_Law_clear {l : Launch} (hlt : l.stackTraces = false) {D : va_G} {dA : Nat → ClassId} {B N : Nat} {v0 : Nat} {v1 : Int32} {v2 : Nat} {h h' : z_H} {r : Int32} (hf : f_Law_clear N v0 v1 v2 h = some (r, h')) : zw_Met l y_Law_clear method_4_code 4 (some .int) [(0, 9, 12, 13)] 7 118 D dA B [.ref v0, .int v1, .ref v2] h (some (.int r)) h' := by
  refine zw_of (by decide) (Nat.le_of_ble_eq_true rfl) (fun p e s m below meth c ls X hh9 hSt hI hl => ?_)
  have hx := z_hx X
  have hb := z_hb X
  have hl : lv_has ls 4 [(0, .ref v0), (1, .int v1), (2, .ref v2)] := hl
  unfold f_Law_clear at hf
  obtain ⟨locs, hlo⟩ : ∃ z : List Loc, z = [] := ⟨_, rfl⟩
  rw [← hlo] at hI ⊢
  refine lv_aload_n hx hb d_Law_clear_0 rfl (lv_at hl 2 rfl) ?_
  refine lv_iconst (v := 0) hx hb d_Law_clear_1 (by decide) ?_
  refine lv_aload_n hx hb d_Law_clear_2 rfl (lv_at hl 0 rfl) ?_
  refine lv_iload_n hx hb d_Law_clear_3 rfl (lv_at hl 1 rfl) ?_
  obtain ⟨u1, eu1, hf⟩ := z_bs hf
  obtain ⟨r2, er2, hf⟩ := z_bs hf
  obtain ⟨q2, h4⟩ := r2
  rcases q2 with x3 | E
  · have hf := zw_kl hf
    refine zx_callV (r := .inl (some (.int x3))) (As := [.int v1]) (rest := [.int 0, .ref v2]) X hSt hI eu1 (s_SF_clear hlt er2) rfl rfl wm_Law_17 yi_SF_clear rfl hl.1 rfl (Nat.le_of_ble_eq_true rfl) (by decide) (by decide) d_Law_clear_4 (fun v er H locs hI => ?_) (fun E er => by cases er)
    cases er
    refine W.eq (g2 := F0 m 7 ls [.int x3, .int 0, .ref v2]) rfl ?_
    refine lv_i2l hx hb d_Law_clear_7 rfl ?_
    obtain ⟨h5, eh5, hf⟩ := z_bs hf
    refine z_last X hI eh5 d_Law_clear_8 (fun H locs hI => ?_)
    refine lv_goto (tgt := 15) hx hb d_Law_clear_9 (by decide) ?_
    refine lv_iconst (v := 0) hx hb d_Law_clear_15 (by decide) ?_
    cases hf
    exact zw_ret (by decide) (by decide) (z_iret X hI d_Law_clear_16)
  · have hf := zw_kr hf
    by_cases c0 : E = xE1
    · rw [if_pos c0] at hf
      subst c0
      cases hf
      refine zx_callV (r := .inr xE1) (As := [.int v1]) (rest := [.int 0, .ref v2]) X hSt hI eu1 (s_SF_clear hlt er2) rfl rfl wm_Law_17 yi_SF_clear rfl hl.1 rfl (Nat.le_of_ble_eq_true rfl) (by decide) (by decide) d_Law_clear_4 (fun v er => by cases er) (fun E er H locs q ce hI hce hcv hcl => ?_)
      cases er
      refine zw_catch X hSt hh9 [] 0 9 12 13 [] rfl (by simp only [List.forall_mem_cons, List.not_mem_nil, false_implies, implies_true, and_true]) ⟨by decide, by decide⟩ (by decide) wl_Law_13 (List.mem_of_getElem? (i := 7) rfl) hce hcv hcl ?_
      refine lv_astore_n (lv' := [(3, .ref q), (0, .ref v0), (1, .int v1), (2, .ref v2)]) hx hb d_Law_clear_12 rfl hl (by decide) rfl (fun ls hl => ?_)
      refine lv_iconst (v := 1) hx hb d_Law_clear_13 (by decide) ?_
      exact zw_ret (by decide) (by decide) (z_iret X hI d_Law_clear_14)
    · rw [if_neg c0] at hf
      cases hf
def f_Law_parse (N : Nat) (v0 : Nat) (v1 : Nat) (h : z_H) : Option (Int32 × z_H) :=
  z_b (gO h v0 11) fun u1 =>
  z_b (f_SF_parse N v0  h) fun r2 =>
  zw_k r2 (fun x3 h4 => z_b (uL h4 v1 0 (Int32.toInt64 x3)) fun h5 => some (0, h5)) (fun E h4 => if E = xE1 then some (1, h4) else none)
set_option maxRecDepth 20000 in
set_option maxHeartbeats 2000000 in
theorem s_Law_parse {l : Launch} (hlt : l.stackTraces = false) {D : va_G} {dA : Nat → ClassId} {B N : Nat} {v0 : Nat} {v1 : Nat} {h h' : z_H} {r : Int32} (hf : f_Law_parse N v0 v1 h = some (r, h')) : zw_Met l y_Law_parse method_5_code 3 (some .int) [(0, 8, 11, 13)] 8 183 D dA B [.ref v0, .ref v1] h (some (.int r)) h' := by
  refine zw_of (by decide) (Nat.le_of_ble_eq_true rfl) (fun p e s m below meth c ls X hh9 hSt hI hl => ?_)
  have hx := z_hx X
  have hb := z_hb X
  have hl : lv_has ls 3 [(0, .ref v0), (1, .ref v1)] := hl
  unfold f_Law_parse at hf
  obtain ⟨locs, hlo⟩ : ∃ z : List Loc, z = [] := ⟨_, rfl⟩
  rw [← hlo] at hI ⊢
  refine lv_aload_n hx hb d_Law_parse_0 rfl (lv_at hl 1 rfl) ?_
  refine lv_iconst (v := 0) hx hb d_Law_parse_1 (by decide) ?_
  refine lv_aload_n hx hb d_Law_parse_2 rfl (lv_at hl 0 rfl) ?_
  obtain ⟨u1, eu1, hf⟩ := z_bs hf
  obtain ⟨r2, er2, hf⟩ := z_bs hf
  obtain ⟨q2, h4⟩ := r2
  rcases q2 with x3 | E
  · have hf := zw_kl hf
    refine zx_callV (r := .inl (some (.int x3))) (As := []) (rest := [.int 0, .ref v1]) X hSt hI eu1 (s_SF_parse hlt er2) rfl rfl wm_Law_21 yi_SF_parse rfl hl.1 rfl (Nat.le_of_ble_eq_true rfl) (by decide) (by decide) d_Law_parse_3 (fun v er H locs hI => ?_) (fun E er => by cases er)
    cases er
    refine W.eq (g2 := F0 m 6 ls [.int x3, .int 0, .ref v1]) rfl ?_
    refine lv_i2l hx hb d_Law_parse_6 rfl ?_
    obtain ⟨h5, eh5, hf⟩ := z_bs hf
    refine z_last X hI eh5 d_Law_parse_7 (fun H locs hI => ?_)
    refine lv_goto (tgt := 14) hx hb d_Law_parse_8 (by decide) ?_
    refine lv_iconst (v := 0) hx hb d_Law_parse_14 (by decide) ?_
    cases hf
    exact zw_ret (by decide) (by decide) (z_iret X hI d_Law_parse_15)
  · have hf := zw_kr hf
    by_cases c0 : E = xE1
    · rw [if_pos c0] at hf
      subst c0
      cases hf
      refine zx_callV (r := .inr xE1) (As := []) (rest := [.int 0, .ref v1]) X hSt hI eu1 (s_SF_parse hlt er2) rfl rfl wm_Law_21 yi_SF_parse rfl hl.1 rfl (Nat.le_of_ble_eq_true rfl) (by decide) (by decide) d_Law_parse_3 (fun v er => by cases er) (fun E er H locs q ce hI hce hcv hcl => ?_)
      cases er
      refine zw_catch X hSt hh9 [] 0 8 11 13 [] rfl (by simp only [List.forall_mem_cons, List.not_mem_nil, false_implies, implies_true, and_true]) ⟨by decide, by decide⟩ (by decide) wl_Law_13 (List.mem_of_getElem? (i := 7) rfl) hce hcv hcl ?_
      refine lv_astore_n (lv' := [(2, .ref q), (0, .ref v0), (1, .ref v1)]) hx hb d_Law_parse_11 rfl hl (by decide) rfl (fun ls hl => ?_)
      refine lv_iconst (v := 1) hx hb d_Law_parse_12 (by decide) ?_
      exact zw_ret (by decide) (by decide) (z_iret X hI d_Law_parse_13)
    · rw [if_neg c0] at hf
      cases hf
def f_Law_line (N : Nat) (v0 : Nat) (v1 : Int64) (v3 : Int64) (v5 : Nat) (h : z_H) : Option (Int32 × z_H) :=
  z_b (gO h v0 11) fun u1 =>
  z_b (f_SF_line N v0 v1 v3 h) fun r2 =>
  zw_k r2 (fun x3 h4 => z_b (uL h4 v5 0 (Int32.toInt64 x3)) fun h5 => some (0, h5)) (fun E h4 => if E = xE1 then some (1, h4) else if E = xE2 then some (2, h4) else none)
set_option maxRecDepth 20000 in
set_option maxHeartbeats 2000000 in
theorem s_Law_line {l : Launch} (hlt : l.stackTraces = false) {D : va_G} {dA : Nat → ClassId} {B N : Nat} {v0 : Nat} {v1 : Int64} {v3 : Int64} {v5 : Nat} {h h' : z_H} {r : Int32} (hf : f_Law_line N v0 v1 v3 v5 h = some (r, h')) : zw_Met l y_Law_line method_6_code 7 (some .int) [(0, 11, 14, 13), (0, 11, 18, 15)] 7 121 D dA B [.ref v0, .long v1, .long v3, .ref v5] h (some (.int r)) h' := by
  refine zw_of (by decide) (Nat.le_of_ble_eq_true rfl) (fun p e s m below meth c ls X hh9 hSt hI hl => ?_)
  have hx := z_hx X
  have hb := z_hb X
  have hl : lv_has ls 7 [(0, .ref v0), (1, .long v1), (3, .long v3), (5, .ref v5)] := hl
  unfold f_Law_line at hf
  obtain ⟨locs, hlo⟩ : ∃ z : List Loc, z = [] := ⟨_, rfl⟩
  rw [← hlo] at hI ⊢
  refine lv_aload hx hb d_Law_line_0 (lv_at hl 3 rfl) ?_
  refine lv_iconst (v := 0) hx hb d_Law_line_2 (by decide) ?_
  refine lv_aload_n hx hb d_Law_line_3 rfl (lv_at hl 0 rfl) ?_
  refine lv_lload_n hx hb d_Law_line_4 rfl (lv_at hl 1 rfl) ?_
  refine lv_lload_n hx hb d_Law_line_5 rfl (lv_at hl 2 rfl) ?_
  obtain ⟨u1, eu1, hf⟩ := z_bs hf
  obtain ⟨r2, er2, hf⟩ := z_bs hf
  obtain ⟨q2, h4⟩ := r2
  rcases q2 with x3 | E
  · have hf := zw_kl hf
    refine zx_callV (r := .inl (some (.int x3))) (As := [.long v1, .long v3]) (rest := [.int 0, .ref v5]) X hSt hI eu1 (s_SF_line hlt er2) rfl rfl wm_Law_25 yi_SF_line rfl hl.1 rfl (Nat.le_of_ble_eq_true rfl) (by decide) (by decide) d_Law_line_6 (fun v er H locs hI => ?_) (fun E er => by cases er)
    cases er
    refine W.eq (g2 := F0 m 9 ls [.int x3, .int 0, .ref v5]) rfl ?_
    refine lv_i2l hx hb d_Law_line_9 rfl ?_
    obtain ⟨h5, eh5, hf⟩ := z_bs hf
    refine z_last X hI eh5 d_Law_line_10 (fun H locs hI => ?_)
    refine lv_goto (tgt := 22) hx hb d_Law_line_11 (by decide) ?_
    refine lv_iconst (v := 0) hx hb d_Law_line_22 (by decide) ?_
    cases hf
    exact zw_ret (by decide) (by decide) (z_iret X hI d_Law_line_23)
  · have hf := zw_kr hf
    by_cases c0 : E = xE1
    · rw [if_pos c0] at hf
      subst c0
      cases hf
      refine zx_callV (r := .inr xE1) (As := [.long v1, .long v3]) (rest := [.int 0, .ref v5]) X hSt hI eu1 (s_SF_line hlt er2) rfl rfl wm_Law_25 yi_SF_line rfl hl.1 rfl (Nat.le_of_ble_eq_true rfl) (by decide) (by decide) d_Law_line_6 (fun v er => by cases er) (fun E er H locs q ce hI hce hcv hcl => ?_)
      cases er
      refine zw_catch X hSt hh9 [] 0 11 14 13 [(0, 11, 18, 15)] rfl (by simp only [List.forall_mem_cons, List.not_mem_nil, false_implies, implies_true, and_true]) ⟨by decide, by decide⟩ (by decide) wl_Law_13 (List.mem_of_getElem? (i := 7) rfl) hce hcv hcl ?_
      refine lv_astore (lv' := [(6, .ref q), (0, .ref v0), (1, .long v1), (3, .long v3), (5, .ref v5)]) hx hb d_Law_line_14 hl (by decide) rfl (fun ls hl => ?_)
      refine lv_iconst (v := 1) hx hb d_Law_line_16 (by decide) ?_
      exact zw_ret (by decide) (by decide) (z_iret X hI d_Law_line_17)
    · rw [if_neg c0] at hf
      by_cases c1 : E = xE2
      · rw [if_pos c1] at hf
        subst c1
        cases hf
        refine zx_callV (r := .inr xE2) (As := [.long v1, .long v3]) (rest := [.int 0, .ref v5]) X hSt hI eu1 (s_SF_line hlt er2) rfl rfl wm_Law_25 yi_SF_line rfl hl.1 rfl (Nat.le_of_ble_eq_true rfl) (by decide) (by decide) d_Law_line_6 (fun v er => by cases er) (fun E er H locs q ce hI hce hcv hcl => ?_)
        cases er
        refine zw_catch X hSt hh9 [(0, 11, 14, 13)] 0 11 18 15 [] rfl (by simp only [List.forall_mem_cons, List.not_mem_nil, false_implies, implies_true, and_true]; exact ⟨by decide, xE1, wl_Law_13, List.mem_of_getElem? (i := 11) rfl⟩) ⟨by decide, by decide⟩ (by decide) wl_Law_15 (List.mem_of_getElem? (i := 8) rfl) hce hcv hcl ?_
        refine lv_astore (lv' := [(6, .ref q), (0, .ref v0), (1, .long v1), (3, .long v3), (5, .ref v5)]) hx hb d_Law_line_18 hl (by decide) rfl (fun ls hl => ?_)
        refine lv_iconst (v := 2) hx hb d_Law_line_20 (by decide) ?_
        exact zw_ret (by decide) (by decide) (z_iret X hI d_Law_line_21)
      · rw [if_neg c1] at hf
        cases hf
def f_Law_more (N : Nat) (v0 : Nat) (v1 : Int64) (v3 : Nat) (h : z_H) : Option (Int32 × z_H) :=
  z_b (gO h v0 11) fun u1 =>
  z_b (f_SF_more N v0 v1 h) fun r2 =>
  zw_k r2 (fun x3 h4 => z_b (uL h4 v3 0 (Int32.toInt64 x3)) fun h5 => some (0, h5)) (fun E h4 => if E = xE1 then some (1, h4) else if E = xE2 then some (2, h4) else none)
set_option maxRecDepth 20000 in
set_option maxHeartbeats 2000000 in
theorem s_Law_more {l : Launch} (hlt : l.stackTraces = false) {D : va_G} {dA : Nat → ClassId} {B N : Nat} {v0 : Nat} {v1 : Int64} {v3 : Nat} {h h' : z_H} {r : Int32} (hf : f_Law_more N v0 v1 v3 h = some (r, h')) : zw_Met l y_Law_more method_7_code 5 (some .int) [(0, 9, 12, 13), (0, 9, 16, 15)] 7 119 D dA B [.ref v0, .long v1, .ref v3] h (some (.int r)) h' := by
  refine zw_of (by decide) (Nat.le_of_ble_eq_true rfl) (fun p e s m below meth c ls X hh9 hSt hI hl => ?_)
  have hx := z_hx X
  have hb := z_hb X
  have hl : lv_has ls 5 [(0, .ref v0), (1, .long v1), (3, .ref v3)] := hl
  unfold f_Law_more at hf
  obtain ⟨locs, hlo⟩ : ∃ z : List Loc, z = [] := ⟨_, rfl⟩
  rw [← hlo] at hI ⊢
  refine lv_aload_n hx hb d_Law_more_0 rfl (lv_at hl 2 rfl) ?_
  refine lv_iconst (v := 0) hx hb d_Law_more_1 (by decide) ?_
  refine lv_aload_n hx hb d_Law_more_2 rfl (lv_at hl 0 rfl) ?_
  refine lv_lload_n hx hb d_Law_more_3 rfl (lv_at hl 1 rfl) ?_
  obtain ⟨u1, eu1, hf⟩ := z_bs hf
  obtain ⟨r2, er2, hf⟩ := z_bs hf
  obtain ⟨q2, h4⟩ := r2
  rcases q2 with x3 | E
  · have hf := zw_kl hf
    refine zx_callV (r := .inl (some (.int x3))) (As := [.long v1]) (rest := [.int 0, .ref v3]) X hSt hI eu1 (s_SF_more hlt er2) rfl rfl wm_Law_29 yi_SF_more rfl hl.1 rfl (Nat.le_of_ble_eq_true rfl) (by decide) (by decide) d_Law_more_4 (fun v er H locs hI => ?_) (fun E er => by cases er)
    cases er
    refine W.eq (g2 := F0 m 7 ls [.int x3, .int 0, .ref v3]) rfl ?_
    refine lv_i2l hx hb d_Law_more_7 rfl ?_
    obtain ⟨h5, eh5, hf⟩ := z_bs hf
    refine z_last X hI eh5 d_Law_more_8 (fun H locs hI => ?_)
    refine lv_goto (tgt := 20) hx hb d_Law_more_9 (by decide) ?_
    refine lv_iconst (v := 0) hx hb d_Law_more_20 (by decide) ?_
    cases hf
    exact zw_ret (by decide) (by decide) (z_iret X hI d_Law_more_21)
  · have hf := zw_kr hf
    by_cases c0 : E = xE1
    · rw [if_pos c0] at hf
      subst c0
      cases hf
      refine zx_callV (r := .inr xE1) (As := [.long v1]) (rest := [.int 0, .ref v3]) X hSt hI eu1 (s_SF_more hlt er2) rfl rfl wm_Law_29 yi_SF_more rfl hl.1 rfl (Nat.le_of_ble_eq_true rfl) (by decide) (by decide) d_Law_more_4 (fun v er => by cases er) (fun E er H locs q ce hI hce hcv hcl => ?_)
      cases er
      refine zw_catch X hSt hh9 [] 0 9 12 13 [(0, 9, 16, 15)] rfl (by simp only [List.forall_mem_cons, List.not_mem_nil, false_implies, implies_true, and_true]) ⟨by decide, by decide⟩ (by decide) wl_Law_13 (List.mem_of_getElem? (i := 7) rfl) hce hcv hcl ?_
      refine lv_astore (lv' := [(4, .ref q), (0, .ref v0), (1, .long v1), (3, .ref v3)]) hx hb d_Law_more_12 hl (by decide) rfl (fun ls hl => ?_)
      refine lv_iconst (v := 1) hx hb d_Law_more_14 (by decide) ?_
      exact zw_ret (by decide) (by decide) (z_iret X hI d_Law_more_15)
    · rw [if_neg c0] at hf
      by_cases c1 : E = xE2
      · rw [if_pos c1] at hf
        subst c1
        cases hf
        refine zx_callV (r := .inr xE2) (As := [.long v1]) (rest := [.int 0, .ref v3]) X hSt hI eu1 (s_SF_more hlt er2) rfl rfl wm_Law_29 yi_SF_more rfl hl.1 rfl (Nat.le_of_ble_eq_true rfl) (by decide) (by decide) d_Law_more_4 (fun v er => by cases er) (fun E er H locs q ce hI hce hcv hcl => ?_)
        cases er
        refine zw_catch X hSt hh9 [(0, 9, 12, 13)] 0 9 16 15 [] rfl (by simp only [List.forall_mem_cons, List.not_mem_nil, false_implies, implies_true, and_true]; exact ⟨by decide, xE1, wl_Law_13, List.mem_of_getElem? (i := 11) rfl⟩) ⟨by decide, by decide⟩ (by decide) wl_Law_15 (List.mem_of_getElem? (i := 8) rfl) hce hcv hcl ?_
        refine lv_astore (lv' := [(4, .ref q), (0, .ref v0), (1, .long v1), (3, .ref v3)]) hx hb d_Law_more_16 hl (by decide) rfl (fun ls hl => ?_)
        refine lv_iconst (v := 2) hx hb d_Law_more_18 (by decide) ?_
        exact zw_ret (by decide) (by decide) (z_iret X hI d_Law_more_19)
      · rw [if_neg c1] at hf
        cases hf
def f_Law_run (N : Nat) (v0 : Nat) (v1 : Nat) (h : z_H) : Option (Int32 × z_H) :=
  z_b (gO h v0 11) fun u1 =>
  z_b (f_SF_run N v0  h) fun r2 =>
  zw_k r2 (fun x3 h4 => z_b (uL h4 v1 0 (Int32.toInt64 x3)) fun h5 => some (0, h5)) (fun E h4 => if E = xE2 then some (1, h4) else if E = xE3 then some (2, h4) else if E = xE4 then some (3, h4) else none)
set_option maxRecDepth 20000 in
set_option maxHeartbeats 2000000 in
theorem s_Law_run {l : Launch} (hlt : l.stackTraces = false) {D : va_G} {dA : Nat → ClassId} {B N : Nat} {v0 : Nat} {v1 : Nat} {h h' : z_H} {r : Int32} (hf : f_Law_run N v0 v1 h = some (r, h')) : zw_Met l y_Law_run method_8_code 3 (some .int) [(0, 8, 11, 15), (0, 8, 14, 35), (0, 8, 17, 37)] 13 249 D dA B [.ref v0, .ref v1] h (some (.int r)) h' := by
  refine zw_of (by decide) (Nat.le_of_ble_eq_true rfl) (fun p e s m below meth c ls X hh9 hSt hI hl => ?_)
  have hx := z_hx X
  have hb := z_hb X
  have hl : lv_has ls 3 [(0, .ref v0), (1, .ref v1)] := hl
  unfold f_Law_run at hf
  obtain ⟨locs, hlo⟩ : ∃ z : List Loc, z = [] := ⟨_, rfl⟩
  rw [← hlo] at hI ⊢
  refine lv_aload_n hx hb d_Law_run_0 rfl (lv_at hl 1 rfl) ?_
  refine lv_iconst (v := 0) hx hb d_Law_run_1 (by decide) ?_
  refine lv_aload_n hx hb d_Law_run_2 rfl (lv_at hl 0 rfl) ?_
  obtain ⟨u1, eu1, hf⟩ := z_bs hf
  obtain ⟨r2, er2, hf⟩ := z_bs hf
  obtain ⟨q2, h4⟩ := r2
  rcases q2 with x3 | E
  · have hf := zw_kl hf
    refine zx_callV (r := .inl (some (.int x3))) (As := []) (rest := [.int 0, .ref v1]) X hSt hI eu1 (s_SF_run hlt er2) rfl rfl wm_Law_32 yi_SF_run rfl hl.1 rfl (Nat.le_of_ble_eq_true rfl) (by decide) (by decide) d_Law_run_3 (fun v er H locs hI => ?_) (fun E er => by cases er)
    cases er
    refine W.eq (g2 := F0 m 6 ls [.int x3, .int 0, .ref v1]) rfl ?_
    refine lv_i2l hx hb d_Law_run_6 rfl ?_
    obtain ⟨h5, eh5, hf⟩ := z_bs hf
    refine z_last X hI eh5 d_Law_run_7 (fun H locs hI => ?_)
    refine lv_goto (tgt := 20) hx hb d_Law_run_8 (by decide) ?_
    refine lv_iconst (v := 0) hx hb d_Law_run_20 (by decide) ?_
    cases hf
    exact zw_ret (by decide) (by decide) (z_iret X hI d_Law_run_21)
  · have hf := zw_kr hf
    by_cases c0 : E = xE2
    · rw [if_pos c0] at hf
      subst c0
      cases hf
      refine zx_callV (r := .inr xE2) (As := []) (rest := [.int 0, .ref v1]) X hSt hI eu1 (s_SF_run hlt er2) rfl rfl wm_Law_32 yi_SF_run rfl hl.1 rfl (Nat.le_of_ble_eq_true rfl) (by decide) (by decide) d_Law_run_3 (fun v er => by cases er) (fun E er H locs q ce hI hce hcv hcl => ?_)
      cases er
      refine zw_catch X hSt hh9 [] 0 8 11 15 [(0, 8, 14, 35), (0, 8, 17, 37)] rfl (by simp only [List.forall_mem_cons, List.not_mem_nil, false_implies, implies_true, and_true]) ⟨by decide, by decide⟩ (by decide) wl_Law_15 (List.mem_of_getElem? (i := 8) rfl) hce hcv hcl ?_
      refine lv_astore_n (lv' := [(2, .ref q), (0, .ref v0), (1, .ref v1)]) hx hb d_Law_run_11 rfl hl (by decide) rfl (fun ls hl => ?_)
      refine lv_iconst (v := 1) hx hb d_Law_run_12 (by decide) ?_
      exact zw_ret (by decide) (by decide) (z_iret X hI d_Law_run_13)
    · rw [if_neg c0] at hf
      by_cases c1 : E = xE3
      · rw [if_pos c1] at hf
        subst c1
        cases hf
        refine zx_callV (r := .inr xE3) (As := []) (rest := [.int 0, .ref v1]) X hSt hI eu1 (s_SF_run hlt er2) rfl rfl wm_Law_32 yi_SF_run rfl hl.1 rfl (Nat.le_of_ble_eq_true rfl) (by decide) (by decide) d_Law_run_3 (fun v er => by cases er) (fun E er H locs q ce hI hce hcv hcl => ?_)
        cases er
        refine zw_catch X hSt hh9 [(0, 8, 11, 15)] 0 8 14 35 [(0, 8, 17, 37)] rfl (by simp only [List.forall_mem_cons, List.not_mem_nil, false_implies, implies_true, and_true]; exact ⟨by decide, xE2, wl_Law_15, List.mem_of_getElem? (i := 15) rfl⟩) ⟨by decide, by decide⟩ (by decide) wl_Law_35 (List.mem_of_getElem? (i := 9) rfl) hce hcv hcl ?_
        refine lv_astore_n (lv' := [(2, .ref q), (0, .ref v0), (1, .ref v1)]) hx hb d_Law_run_14 rfl hl (by decide) rfl (fun ls hl => ?_)
        refine lv_iconst (v := 2) hx hb d_Law_run_15 (by decide) ?_
        exact zw_ret (by decide) (by decide) (z_iret X hI d_Law_run_16)
      · rw [if_neg c1] at hf
        by_cases c2 : E = xE4
        · rw [if_pos c2] at hf
          subst c2
          cases hf
          refine zx_callV (r := .inr xE4) (As := []) (rest := [.int 0, .ref v1]) X hSt hI eu1 (s_SF_run hlt er2) rfl rfl wm_Law_32 yi_SF_run rfl hl.1 rfl (Nat.le_of_ble_eq_true rfl) (by decide) (by decide) d_Law_run_3 (fun v er => by cases er) (fun E er H locs q ce hI hce hcv hcl => ?_)
          cases er
          refine zw_catch X hSt hh9 [(0, 8, 11, 15), (0, 8, 14, 35)] 0 8 17 37 [] rfl (by simp only [List.forall_mem_cons, List.not_mem_nil, false_implies, implies_true, and_true]; exact ⟨⟨by decide, xE2, wl_Law_15, List.mem_of_getElem? (i := 16) rfl⟩, ⟨by decide, xE3, wl_Law_35, List.mem_of_getElem? (i := 19) rfl⟩⟩) ⟨by decide, by decide⟩ (by decide) wl_Law_37 (List.mem_of_getElem? (i := 10) rfl) hce hcv hcl ?_
          refine lv_astore_n (lv' := [(2, .ref q), (0, .ref v0), (1, .ref v1)]) hx hb d_Law_run_17 rfl hl (by decide) rfl (fun ls hl => ?_)
          refine lv_iconst (v := 3) hx hb d_Law_run_18 (by decide) ?_
          exact zw_ret (by decide) (by decide) (z_iret X hI d_Law_run_19)
        · rw [if_neg c2] at hf
          cases hf
def f_Law_out (N : Nat) (v0 : Nat) (v1 : Int32) (v2 : Nat) (h : z_H) : Option (Int32 × z_H) :=
  z_b (gO h v0 11) fun u1 =>
  z_b (f_SF_out N v0 v1 h) fun r2 =>
  zw_k r2 (fun x3 h4 => z_b (uL h4 v2 0 (Int32.toInt64 x3)) fun h5 => some (0, h5)) (fun E h4 => if E = xE3 then some (1, h4) else none)
set_option maxRecDepth 20000 in
set_option maxHeartbeats 2000000 in
theorem s_Law_out {l : Launch} (hlt : l.stackTraces = false) {D : va_G} {dA : Nat → ClassId} {B N : Nat} {v0 : Nat} {v1 : Int32} {v2 : Nat} {h h' : z_H} {r : Int32} (hf : f_Law_out N v0 v1 v2 h = some (r, h')) : zw_Met l y_Law_out method_9_code 4 (some .int) [(0, 9, 12, 35)] 7 118 D dA B [.ref v0, .int v1, .ref v2] h (some (.int r)) h' := by
  refine zw_of (by decide) (Nat.le_of_ble_eq_true rfl) (fun p e s m below meth c ls X hh9 hSt hI hl => ?_)
  have hx := z_hx X
  have hb := z_hb X
  have hl : lv_has ls 4 [(0, .ref v0), (1, .int v1), (2, .ref v2)] := hl
  unfold f_Law_out at hf
  obtain ⟨locs, hlo⟩ : ∃ z : List Loc, z = [] := ⟨_, rfl⟩
  rw [← hlo] at hI ⊢
  refine lv_aload_n hx hb d_Law_out_0 rfl (lv_at hl 2 rfl) ?_
  refine lv_iconst (v := 0) hx hb d_Law_out_1 (by decide) ?_
  refine lv_aload_n hx hb d_Law_out_2 rfl (lv_at hl 0 rfl) ?_
  refine lv_iload_n hx hb d_Law_out_3 rfl (lv_at hl 1 rfl) ?_
  obtain ⟨u1, eu1, hf⟩ := z_bs hf
  obtain ⟨r2, er2, hf⟩ := z_bs hf
  obtain ⟨q2, h4⟩ := r2
  rcases q2 with x3 | E
  · have hf := zw_kl hf
    refine zx_callV (r := .inl (some (.int x3))) (As := [.int v1]) (rest := [.int 0, .ref v2]) X hSt hI eu1 (s_SF_out hlt er2) rfl rfl wm_Law_39 yi_SF_out rfl hl.1 rfl (Nat.le_of_ble_eq_true rfl) (by decide) (by decide) d_Law_out_4 (fun v er H locs hI => ?_) (fun E er => by cases er)
    cases er
    refine W.eq (g2 := F0 m 7 ls [.int x3, .int 0, .ref v2]) rfl ?_
    refine lv_i2l hx hb d_Law_out_7 rfl ?_
    obtain ⟨h5, eh5, hf⟩ := z_bs hf
    refine z_last X hI eh5 d_Law_out_8 (fun H locs hI => ?_)
    refine lv_goto (tgt := 15) hx hb d_Law_out_9 (by decide) ?_
    refine lv_iconst (v := 0) hx hb d_Law_out_15 (by decide) ?_
    cases hf
    exact zw_ret (by decide) (by decide) (z_iret X hI d_Law_out_16)
  · have hf := zw_kr hf
    by_cases c0 : E = xE3
    · rw [if_pos c0] at hf
      subst c0
      cases hf
      refine zx_callV (r := .inr xE3) (As := [.int v1]) (rest := [.int 0, .ref v2]) X hSt hI eu1 (s_SF_out hlt er2) rfl rfl wm_Law_39 yi_SF_out rfl hl.1 rfl (Nat.le_of_ble_eq_true rfl) (by decide) (by decide) d_Law_out_4 (fun v er => by cases er) (fun E er H locs q ce hI hce hcv hcl => ?_)
      cases er
      refine zw_catch X hSt hh9 [] 0 9 12 35 [] rfl (by simp only [List.forall_mem_cons, List.not_mem_nil, false_implies, implies_true, and_true]) ⟨by decide, by decide⟩ (by decide) wl_Law_35 (List.mem_of_getElem? (i := 9) rfl) hce hcv hcl ?_
      refine lv_astore_n (lv' := [(3, .ref q), (0, .ref v0), (1, .int v1), (2, .ref v2)]) hx hb d_Law_out_12 rfl hl (by decide) rfl (fun ls hl => ?_)
      refine lv_iconst (v := 1) hx hb d_Law_out_13 (by decide) ?_
      exact zw_ret (by decide) (by decide) (z_iret X hI d_Law_out_14)
    · rw [if_neg c0] at hf
      cases hf
def f_Law_ran (N : Nat) (v0 : Nat) (v1 : Int32) (v2 : Nat) (h : z_H) : Option (Int32 × z_H) :=
  z_b (gO h v0 11) fun u1 =>
  z_b (f_SF_ran N v0 v1 h) fun r2 =>
  zw_k r2 (fun x3 h4 => z_b (uL h4 v2 0 (Int32.toInt64 x3)) fun h5 => some (0, h5)) (fun E h4 => if E = xE1 then some (1, h4) else none)
set_option maxRecDepth 20000 in
set_option maxHeartbeats 2000000 in
theorem s_Law_ran {l : Launch} (hlt : l.stackTraces = false) {D : va_G} {dA : Nat → ClassId} {B N : Nat} {v0 : Nat} {v1 : Int32} {v2 : Nat} {h h' : z_H} {r : Int32} (hf : f_Law_ran N v0 v1 v2 h = some (r, h')) : zw_Met l y_Law_ran method_10_code 4 (some .int) [(0, 9, 12, 13)] 7 117 D dA B [.ref v0, .int v1, .ref v2] h (some (.int r)) h' := by
  refine zw_of (by decide) (Nat.le_of_ble_eq_true rfl) (fun p e s m below meth c ls X hh9 hSt hI hl => ?_)
  have hx := z_hx X
  have hb := z_hb X
  have hl : lv_has ls 4 [(0, .ref v0), (1, .int v1), (2, .ref v2)] := hl
  unfold f_Law_ran at hf
  obtain ⟨locs, hlo⟩ : ∃ z : List Loc, z = [] := ⟨_, rfl⟩
  rw [← hlo] at hI ⊢
  refine lv_aload_n hx hb d_Law_ran_0 rfl (lv_at hl 2 rfl) ?_
  refine lv_iconst (v := 0) hx hb d_Law_ran_1 (by decide) ?_
  refine lv_aload_n hx hb d_Law_ran_2 rfl (lv_at hl 0 rfl) ?_
  refine lv_iload_n hx hb d_Law_ran_3 rfl (lv_at hl 1 rfl) ?_
  obtain ⟨u1, eu1, hf⟩ := z_bs hf
  obtain ⟨r2, er2, hf⟩ := z_bs hf
  obtain ⟨q2, h4⟩ := r2
  rcases q2 with x3 | E
  · have hf := zw_kl hf
    refine zx_callV (r := .inl (some (.int x3))) (As := [.int v1]) (rest := [.int 0, .ref v2]) X hSt hI eu1 (s_SF_ran hlt er2) rfl rfl wm_Law_42 yi_SF_ran rfl hl.1 rfl (Nat.le_of_ble_eq_true rfl) (by decide) (by decide) d_Law_ran_4 (fun v er H locs hI => ?_) (fun E er => by cases er)
    cases er
    refine W.eq (g2 := F0 m 7 ls [.int x3, .int 0, .ref v2]) rfl ?_
    refine lv_i2l hx hb d_Law_ran_7 rfl ?_
    obtain ⟨h5, eh5, hf⟩ := z_bs hf
    refine z_last X hI eh5 d_Law_ran_8 (fun H locs hI => ?_)
    refine lv_goto (tgt := 15) hx hb d_Law_ran_9 (by decide) ?_
    refine lv_iconst (v := 0) hx hb d_Law_ran_15 (by decide) ?_
    cases hf
    exact zw_ret (by decide) (by decide) (z_iret X hI d_Law_ran_16)
  · have hf := zw_kr hf
    by_cases c0 : E = xE1
    · rw [if_pos c0] at hf
      subst c0
      cases hf
      refine zx_callV (r := .inr xE1) (As := [.int v1]) (rest := [.int 0, .ref v2]) X hSt hI eu1 (s_SF_ran hlt er2) rfl rfl wm_Law_42 yi_SF_ran rfl hl.1 rfl (Nat.le_of_ble_eq_true rfl) (by decide) (by decide) d_Law_ran_4 (fun v er => by cases er) (fun E er H locs q ce hI hce hcv hcl => ?_)
      cases er
      refine zw_catch X hSt hh9 [] 0 9 12 13 [] rfl (by simp only [List.forall_mem_cons, List.not_mem_nil, false_implies, implies_true, and_true]) ⟨by decide, by decide⟩ (by decide) wl_Law_13 (List.mem_of_getElem? (i := 7) rfl) hce hcv hcl ?_
      refine lv_astore_n (lv' := [(3, .ref q), (0, .ref v0), (1, .int v1), (2, .ref v2)]) hx hb d_Law_ran_12 rfl hl (by decide) rfl (fun ls hl => ?_)
      refine lv_iconst (v := 1) hx hb d_Law_ran_13 (by decide) ?_
      exact zw_ret (by decide) (by decide) (z_iret X hI d_Law_ran_14)
    · rw [if_neg c0] at hf
      cases hf
def f_Law_match (N : Nat) (v0 : Nat) (v1 : Int32) (v2 : Int32) (v3 : Int32) (v4 : Nat) (h : z_H) : Option (Int32 × z_H) :=
  z_b (gO h v0 11) fun u1 =>
  z_b (f_SF_match N v0 v1 v2 v3 h) fun r2 =>
  zw_k r2 (fun x3 h4 => z_b (uL h4 v4 0 (Int32.toInt64 x3)) fun h5 => some (0, h5)) (fun E h4 => if E = xE1 then some (1, h4) else if E = xE3 then some (2, h4) else if E = xE2 then some (3, h4) else none)
set_option maxRecDepth 20000 in
set_option maxHeartbeats 2000000 in
theorem s_Law_match {l : Launch} (hlt : l.stackTraces = false) {D : va_G} {dA : Nat → ClassId} {B N : Nat} {v0 : Nat} {v1 : Int32} {v2 : Int32} {v3 : Int32} {v4 : Nat} {h h' : z_H} {r : Int32} (hf : f_Law_match N v0 v1 v2 v3 v4 h = some (r, h')) : zw_Met l y_Law_match method_11_code 6 (some .int) [(0, 12, 15, 13), (0, 12, 19, 35), (0, 12, 23, 15)] 7 126 D dA B [.ref v0, .int v1, .int v2, .int v3, .ref v4] h (some (.int r)) h' := by
  refine zw_of (by decide) (Nat.le_of_ble_eq_true rfl) (fun p e s m below meth c ls X hh9 hSt hI hl => ?_)
  have hx := z_hx X
  have hb := z_hb X
  have hl : lv_has ls 6 [(0, .ref v0), (1, .int v1), (2, .int v2), (3, .int v3), (4, .ref v4)] := hl
  unfold f_Law_match at hf
  obtain ⟨locs, hlo⟩ : ∃ z : List Loc, z = [] := ⟨_, rfl⟩
  rw [← hlo] at hI ⊢
  refine lv_aload hx hb d_Law_match_0 (lv_at hl 4 rfl) ?_
  refine lv_iconst (v := 0) hx hb d_Law_match_2 (by decide) ?_
  refine lv_aload_n hx hb d_Law_match_3 rfl (lv_at hl 0 rfl) ?_
  refine lv_iload_n hx hb d_Law_match_4 rfl (lv_at hl 1 rfl) ?_
  refine lv_iload_n hx hb d_Law_match_5 rfl (lv_at hl 2 rfl) ?_
  refine lv_iload_n hx hb d_Law_match_6 rfl (lv_at hl 3 rfl) ?_
  obtain ⟨u1, eu1, hf⟩ := z_bs hf
  obtain ⟨r2, er2, hf⟩ := z_bs hf
  obtain ⟨q2, h4⟩ := r2
  rcases q2 with x3 | E
  · have hf := zw_kl hf
    refine zx_callV (r := .inl (some (.int x3))) (As := [.int v1, .int v2, .int v3]) (rest := [.int 0, .ref v4]) X hSt hI eu1 (s_SF_match hlt er2) rfl rfl wm_Law_45 yi_SF_match rfl hl.1 rfl (Nat.le_of_ble_eq_true rfl) (by decide) (by decide) d_Law_match_7 (fun v er H locs hI => ?_) (fun E er => by cases er)
    cases er
    refine W.eq (g2 := F0 m 10 ls [.int x3, .int 0, .ref v4]) rfl ?_
    refine lv_i2l hx hb d_Law_match_10 rfl ?_
    obtain ⟨h5, eh5, hf⟩ := z_bs hf
    refine z_last X hI eh5 d_Law_match_11 (fun H locs hI => ?_)
    refine lv_goto (tgt := 27) hx hb d_Law_match_12 (by decide) ?_
    refine lv_iconst (v := 0) hx hb d_Law_match_27 (by decide) ?_
    cases hf
    exact zw_ret (by decide) (by decide) (z_iret X hI d_Law_match_28)
  · have hf := zw_kr hf
    by_cases c0 : E = xE1
    · rw [if_pos c0] at hf
      subst c0
      cases hf
      refine zx_callV (r := .inr xE1) (As := [.int v1, .int v2, .int v3]) (rest := [.int 0, .ref v4]) X hSt hI eu1 (s_SF_match hlt er2) rfl rfl wm_Law_45 yi_SF_match rfl hl.1 rfl (Nat.le_of_ble_eq_true rfl) (by decide) (by decide) d_Law_match_7 (fun v er => by cases er) (fun E er H locs q ce hI hce hcv hcl => ?_)
      cases er
      refine zw_catch X hSt hh9 [] 0 12 15 13 [(0, 12, 19, 35), (0, 12, 23, 15)] rfl (by simp only [List.forall_mem_cons, List.not_mem_nil, false_implies, implies_true, and_true]) ⟨by decide, by decide⟩ (by decide) wl_Law_13 (List.mem_of_getElem? (i := 7) rfl) hce hcv hcl ?_
      refine lv_astore (lv' := [(5, .ref q), (0, .ref v0), (1, .int v1), (2, .int v2), (3, .int v3), (4, .ref v4)]) hx hb d_Law_match_15 hl (by decide) rfl (fun ls hl => ?_)
      refine lv_iconst (v := 1) hx hb d_Law_match_17 (by decide) ?_
      exact zw_ret (by decide) (by decide) (z_iret X hI d_Law_match_18)
    · rw [if_neg c0] at hf
      by_cases c1 : E = xE3
      · rw [if_pos c1] at hf
        subst c1
        cases hf
        refine zx_callV (r := .inr xE3) (As := [.int v1, .int v2, .int v3]) (rest := [.int 0, .ref v4]) X hSt hI eu1 (s_SF_match hlt er2) rfl rfl wm_Law_45 yi_SF_match rfl hl.1 rfl (Nat.le_of_ble_eq_true rfl) (by decide) (by decide) d_Law_match_7 (fun v er => by cases er) (fun E er H locs q ce hI hce hcv hcl => ?_)
        cases er
        refine zw_catch X hSt hh9 [(0, 12, 15, 13)] 0 12 19 35 [(0, 12, 23, 15)] rfl (by simp only [List.forall_mem_cons, List.not_mem_nil, false_implies, implies_true, and_true]; exact ⟨by decide, xE1, wl_Law_13, List.mem_of_getElem? (i := 12) rfl⟩) ⟨by decide, by decide⟩ (by decide) wl_Law_35 (List.mem_of_getElem? (i := 9) rfl) hce hcv hcl ?_
        refine lv_astore (lv' := [(5, .ref q), (0, .ref v0), (1, .int v1), (2, .int v2), (3, .int v3), (4, .ref v4)]) hx hb d_Law_match_19 hl (by decide) rfl (fun ls hl => ?_)
        refine lv_iconst (v := 2) hx hb d_Law_match_21 (by decide) ?_
        exact zw_ret (by decide) (by decide) (z_iret X hI d_Law_match_22)
      · rw [if_neg c1] at hf
        by_cases c2 : E = xE2
        · rw [if_pos c2] at hf
          subst c2
          cases hf
          refine zx_callV (r := .inr xE2) (As := [.int v1, .int v2, .int v3]) (rest := [.int 0, .ref v4]) X hSt hI eu1 (s_SF_match hlt er2) rfl rfl wm_Law_45 yi_SF_match rfl hl.1 rfl (Nat.le_of_ble_eq_true rfl) (by decide) (by decide) d_Law_match_7 (fun v er => by cases er) (fun E er H locs q ce hI hce hcv hcl => ?_)
          cases er
          refine zw_catch X hSt hh9 [(0, 12, 15, 13), (0, 12, 19, 35)] 0 12 23 15 [] rfl (by simp only [List.forall_mem_cons, List.not_mem_nil, false_implies, implies_true, and_true]; exact ⟨⟨by decide, xE1, wl_Law_13, List.mem_of_getElem? (i := 11) rfl⟩, ⟨by decide, xE3, wl_Law_35, List.mem_of_getElem? (i := 18) rfl⟩⟩) ⟨by decide, by decide⟩ (by decide) wl_Law_15 (List.mem_of_getElem? (i := 8) rfl) hce hcv hcl ?_
          refine lv_astore (lv' := [(5, .ref q), (0, .ref v0), (1, .int v1), (2, .int v2), (3, .int v3), (4, .ref v4)]) hx hb d_Law_match_23 hl (by decide) rfl (fun ls hl => ?_)
          refine lv_iconst (v := 3) hx hb d_Law_match_25 (by decide) ?_
          exact zw_ret (by decide) (by decide) (z_iret X hI d_Law_match_26)
        · rw [if_neg c2] at hf
          cases hf
def f_Law_count (N : Nat) (v0 : Nat) (v1 : Int32) (v2 : Nat) (h : z_H) : Option (Int32 × z_H) :=
  z_b (gO h v0 11) fun u1 =>
  z_b (f_SF_count N v0 v1 h) fun r2 =>
  zw_k r2 (fun x3 h4 => z_b (uL h4 v2 0 (Int32.toInt64 x3)) fun h5 => some (0, h5)) (fun E h4 => if E = xE1 then some (1, h4) else none)
set_option maxRecDepth 20000 in
set_option maxHeartbeats 2000000 in
theorem s_Law_count {l : Launch} (hlt : l.stackTraces = false) {D : va_G} {dA : Nat → ClassId} {B N : Nat} {v0 : Nat} {v1 : Int32} {v2 : Nat} {h h' : z_H} {r : Int32} (hf : f_Law_count N v0 v1 v2 h = some (r, h')) : zw_Met l y_Law_count method_12_code 4 (some .int) [(0, 9, 12, 13)] 7 118 D dA B [.ref v0, .int v1, .ref v2] h (some (.int r)) h' := by
  refine zw_of (by decide) (Nat.le_of_ble_eq_true rfl) (fun p e s m below meth c ls X hh9 hSt hI hl => ?_)
  have hx := z_hx X
  have hb := z_hb X
  have hl : lv_has ls 4 [(0, .ref v0), (1, .int v1), (2, .ref v2)] := hl
  unfold f_Law_count at hf
  obtain ⟨locs, hlo⟩ : ∃ z : List Loc, z = [] := ⟨_, rfl⟩
  rw [← hlo] at hI ⊢
  refine lv_aload_n hx hb d_Law_count_0 rfl (lv_at hl 2 rfl) ?_
  refine lv_iconst (v := 0) hx hb d_Law_count_1 (by decide) ?_
  refine lv_aload_n hx hb d_Law_count_2 rfl (lv_at hl 0 rfl) ?_
  refine lv_iload_n hx hb d_Law_count_3 rfl (lv_at hl 1 rfl) ?_
  obtain ⟨u1, eu1, hf⟩ := z_bs hf
  obtain ⟨r2, er2, hf⟩ := z_bs hf
  obtain ⟨q2, h4⟩ := r2
  rcases q2 with x3 | E
  · have hf := zw_kl hf
    refine zx_callV (r := .inl (some (.int x3))) (As := [.int v1]) (rest := [.int 0, .ref v2]) X hSt hI eu1 (s_SF_count hlt er2) rfl rfl wm_Law_49 yi_SF_count rfl hl.1 rfl (Nat.le_of_ble_eq_true rfl) (by decide) (by decide) d_Law_count_4 (fun v er H locs hI => ?_) (fun E er => by cases er)
    cases er
    refine W.eq (g2 := F0 m 7 ls [.int x3, .int 0, .ref v2]) rfl ?_
    refine lv_i2l hx hb d_Law_count_7 rfl ?_
    obtain ⟨h5, eh5, hf⟩ := z_bs hf
    refine z_last X hI eh5 d_Law_count_8 (fun H locs hI => ?_)
    refine lv_goto (tgt := 15) hx hb d_Law_count_9 (by decide) ?_
    refine lv_iconst (v := 0) hx hb d_Law_count_15 (by decide) ?_
    cases hf
    exact zw_ret (by decide) (by decide) (z_iret X hI d_Law_count_16)
  · have hf := zw_kr hf
    by_cases c0 : E = xE1
    · rw [if_pos c0] at hf
      subst c0
      cases hf
      refine zx_callV (r := .inr xE1) (As := [.int v1]) (rest := [.int 0, .ref v2]) X hSt hI eu1 (s_SF_count hlt er2) rfl rfl wm_Law_49 yi_SF_count rfl hl.1 rfl (Nat.le_of_ble_eq_true rfl) (by decide) (by decide) d_Law_count_4 (fun v er => by cases er) (fun E er H locs q ce hI hce hcv hcl => ?_)
      cases er
      refine zw_catch X hSt hh9 [] 0 9 12 13 [] rfl (by simp only [List.forall_mem_cons, List.not_mem_nil, false_implies, implies_true, and_true]) ⟨by decide, by decide⟩ (by decide) wl_Law_13 (List.mem_of_getElem? (i := 7) rfl) hce hcv hcl ?_
      refine lv_astore_n (lv' := [(3, .ref q), (0, .ref v0), (1, .int v1), (2, .ref v2)]) hx hb d_Law_count_12 rfl hl (by decide) rfl (fun ls hl => ?_)
      refine lv_iconst (v := 1) hx hb d_Law_count_13 (by decide) ?_
      exact zw_ret (by decide) (by decide) (z_iret X hI d_Law_count_14)
    · rw [if_neg c0] at hf
      cases hf
