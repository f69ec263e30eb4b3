section
variable {p : Program} {l : Launch} {e : Env} {s : State} {m : MethodId} {below : List Frame} {meth : Method} {c : Code} {D : va_G} {dA : Nat → ClassId} {B : Nat}
def sX (L : Nat) (xs : Nat → Int32) (i : Int32) : Option Int32 := if i < 0 ∨ L ≤ i.toNatClampNeg then none else some (xs i.toNatClampNeg)
theorem sX_s {L : Nat} {xs : Nat → Int32} {i y : Int32} (h : sX L xs i = some y) : vp_in i L ∧ xs i.toNatClampNeg = y := by
  unfold sX at h
  split at h
  · cases h
  · next q => exact ⟨q, Option.some.inj h⟩
def f_law_23 (N L : Nat) (xs : Nat → Int32) : Nat → Nat → Nat → Nat → Int32 → z_H → Option Int32
  | 0, _, _, _, _, _ => none
  | n + 1, v1, v2, v3, v4, h =>
    if ((Int32.ofNat L) - 5) < v4 then
    (some 1)
    else
    (z_b (sX L xs v4) fun x2 =>
    if (x2 &&& 15) = 0 then
    (z_b (sX L xs (v4 + 1)) fun x4 =>
    z_b (sX L xs (v4 + 2)) fun x5 =>
    z_b (f_Law_script N v1 (((Int32.toInt64 x4) <<< (Int32.toInt64 32 &&& 63)) ||| ((Int32.toInt64 x5) &&& 4294967295)) v3 h) fun r6 =>
    z_b (some (r6.1)) fun x7 =>
    z_b (sX L xs (v4 + 1)) fun x8 =>
    z_b (sX L xs (v4 + 2)) fun x9 =>
    z_b (gO r6.2 v2 12) fun u10 =>
    z_b (f_Mod_script N v2 (((Int32.toInt64 x8) <<< (Int32.toInt64 32 &&& 63)) ||| ((Int32.toInt64 x9) &&& 4294967295)) r6.2) fun r11 =>
    z_b (some (r11.1)) fun x12 =>
    z_b (some (v4 + 5)) fun x13 =>
    f_law_23 N L xs n v1 v2 v3 x13 r11.2)
    else
    (
    if (x2 &&& 15) = 1 then
    (z_b (sX L xs (v4 + 1)) fun x15 =>
    z_b (f_Law_clear N v1 x15 v3 h) fun r16 =>
    z_b (some (r16.1)) fun x17 =>
    z_b (sX L xs (v4 + 1)) fun x18 =>
    z_b (gO r16.2 v2 12) fun u19 =>
    z_b (f_Mod_clear N v2 x18 r16.2) fun r20 =>
    z_b (some (r20.1)) fun x21 =>
    z_b (some (v4 + 5)) fun x22 =>
    f_law_23 N L xs n v1 v2 v3 x22 r20.2)
    else
    (
    if (x2 &&& 15) = 2 then
    (z_b (f_Law_parse N v1 v3 h) fun r24 =>
    z_b (some (r24.1)) fun x25 =>
    z_b (gO r24.2 v2 12) fun u26 =>
    z_b (f_Mod_parse N v2 r24.2) fun r27 =>
    z_b (some (r27.1)) fun x28 =>
    z_b (some (v4 + 5)) fun x29 =>
    f_law_23 N L xs n v1 v2 v3 x29 r27.2)
    else
    (
    if (x2 &&& 15) = 3 then
    (z_b (gO h v1 11) fun u31 =>
    z_b (f_SF_where N v1 h) fun r32 =>
    z_b (gO r32.2 v2 12) fun u33 =>
    z_b (f_Mod_where N v2 r32.2) fun r34 =>
    z_b (some (v4 + 5)) fun x35 =>
    f_law_23 N L xs n v1 v2 v3 x35 r34.2)
    else
    (
    if (x2 &&& 15) = 4 then
    (z_b (sX L xs (v4 + 1)) fun x37 =>
    z_b (sX L xs (v4 + 2)) fun x38 =>
    z_b (sX L xs (v4 + 3)) fun x39 =>
    z_b (sX L xs (v4 + 4)) fun x40 =>
    z_b (f_Law_line N v1 (((Int32.toInt64 x37) <<< (Int32.toInt64 32 &&& 63)) ||| ((Int32.toInt64 x38) &&& 4294967295)) (((Int32.toInt64 x39) <<< (Int32.toInt64 32 &&& 63)) ||| ((Int32.toInt64 x40) &&& 4294967295)) v3 h) fun r41 =>
    z_b (some (r41.1)) fun x42 =>
    z_b (sX L xs (v4 + 1)) fun x43 =>
    z_b (sX L xs (v4 + 2)) fun x44 =>
    z_b (sX L xs (v4 + 3)) fun x45 =>
    z_b (sX L xs (v4 + 4)) fun x46 =>
    z_b (gO r41.2 v2 12) fun u47 =>
    z_b (f_Mod_line N v2 (((Int32.toInt64 x43) <<< (Int32.toInt64 32 &&& 63)) ||| ((Int32.toInt64 x44) &&& 4294967295)) (((Int32.toInt64 x45) <<< (Int32.toInt64 32 &&& 63)) ||| ((Int32.toInt64 x46) &&& 4294967295)) r41.2) fun r48 =>
    z_b (some (r48.1)) fun x49 =>
    z_b (some (v4 + 5)) fun x50 =>
    f_law_23 N L xs n v1 v2 v3 x50 r48.2)
    else
    (
    if (x2 &&& 15) = 5 then
    (z_b (sX L xs (v4 + 1)) fun x52 =>
    z_b (sX L xs (v4 + 2)) fun x53 =>
    z_b (f_Law_more N v1 (((Int32.toInt64 x52) <<< (Int32.toInt64 32 &&& 63)) ||| ((Int32.toInt64 x53) &&& 4294967295)) v3 h) fun r54 =>
    z_b (some (r54.1)) fun x55 =>
    z_b (sX L xs (v4 + 1)) fun x56 =>
    z_b (sX L xs (v4 + 2)) fun x57 =>
    z_b (gO r54.2 v2 12) fun u58 =>
    z_b (f_Mod_more N v2 (((Int32.toInt64 x56) <<< (Int32.toInt64 32 &&& 63)) ||| ((Int32.toInt64 x57) &&& 4294967295)) r54.2) fun r59 =>
    z_b (some (r59.1)) fun x60 =>
    z_b (some (v4 + 5)) fun x61 =>
    f_law_23 N L xs n v1 v2 v3 x61 r59.2)
    else
    (
    if (x2 &&& 15) = 6 then
    (z_b (f_Law_run N v1 v3 h) fun r63 =>
    z_b (some (r63.1)) fun x64 =>
    z_b (gO r63.2 v2 12) fun u65 =>
    z_b (f_Mod_run N v2 r63.2) fun r66 =>
    z_b (some (r66.1)) fun x67 =>
    z_b (some (v4 + 5)) fun x68 =>
    f_law_23 N L xs n v1 v2 v3 x68 r66.2)
    else
    (
    if (x2 &&& 15) = 7 then
    (z_b (sX L xs (v4 + 1)) fun x70 =>
    z_b (f_Law_out N v1 x70 v3 h) fun r71 =>
    z_b (some (r71.1)) fun x72 =>
    z_b (sX L xs (v4 + 1)) fun x73 =>
    z_b (gO r71.2 v2 12) fun u74 =>
    z_b (f_Mod_out N v2 x73 r71.2) fun r75 =>
    z_b (some (r75.1)) fun x76 =>
    z_b (some (v4 + 5)) fun x77 =>
    f_law_23 N L xs n v1 v2 v3 x77 r75.2)
    else
    (
    if (x2 &&& 15) = 8 then
    (z_b (sX L xs (v4 + 1)) fun x79 =>
    z_b (f_Law_ran N v1 x79 v3 h) fun r80 =>
    z_b (some (r80.1)) fun x81 =>
    z_b (sX L xs (v4 + 1)) fun x82 =>
    z_b (gO r80.2 v2 12) fun u83 =>
    z_b (f_Mod_ran N v2 x82 r80.2) fun r84 =>
    z_b (some (r84.1)) fun x85 =>
    z_b (gO r84.2 v2 12) fun u86 =>
    z_b (f_Mod_thrown N v2 r84.2) fun r87 =>
    if (r87.1) = x81 then
    (if x81 = 0 then
    (z_b (aL r87.2 v3 0) fun x91 =>
    if (lg_cmp x91 (Int32.toInt64 x85)) = 0 then
    (z_b (some (v4 + 5)) fun x93 =>
    f_law_23 N L xs n v1 v2 v3 x93 r87.2)
    else
    (some 0))
    else
    (z_b (some (v4 + 5)) fun x90 =>
    f_law_23 N L xs n v1 v2 v3 x90 r87.2))
    else
    (some 0))
    else
    (
    if (x2 &&& 15) = 9 then
    (z_b (sX L xs (v4 + 1)) fun x95 =>
    z_b (sX L xs (v4 + 2)) fun x96 =>
    z_b (sX L xs (v4 + 3)) fun x97 =>
    z_b (f_Law_match N v1 x95 x96 x97 v3 h) fun r98 =>
    z_b (some (r98.1)) fun x99 =>
    z_b (sX L xs (v4 + 1)) fun x100 =>
    z_b (sX L xs (v4 + 2)) fun x101 =>
    z_b (sX L xs (v4 + 3)) fun x102 =>
    z_b (gO r98.2 v2 12) fun u103 =>
    z_b (f_Mod_match N v2 x100 x101 x102 r98.2) fun r104 =>
    z_b (some (r104.1)) fun x105 =>
    z_b (some (v4 + 5)) fun x106 =>
    f_law_23 N L xs n v1 v2 v3 x106 r104.2)
    else
    (
    if (x2 &&& 15) = 10 then
    (z_b (sX L xs (v4 + 1)) fun x108 =>
    z_b (f_Law_count N v1 x108 v3 h) fun r109 =>
    z_b (some (r109.1)) fun x110 =>
    z_b (sX L xs (v4 + 1)) fun x111 =>
    z_b (gO r109.2 v2 12) fun u112 =>
    z_b (f_Mod_count N v2 x111 r109.2) fun r113 =>
    z_b (some (r113.1)) fun x114 =>
    z_b (some (v4 + 5)) fun x115 =>
    f_law_23 N L xs n v1 v2 v3 x115 r113.2)
    else
    (
    z_b (some (v4 + 5)) fun x116 =>
    f_law_23 N L xs n v1 v2 v3 x116 h))))))))))))
set_option maxRecDepth 20000 in
set_option maxHeartbeats 8000000 in
theorem s_law_23 {b L N : Nat} {xs : Nat → Int32} (hlt : l.stackTraces = false) (hSt : z_St B s s.heap) (hX : va_X b L xs s s.heap) (hbl : b < s.heap.size) (hbA : ¬ (fun q => B ≤ q) b) (hBs : B = s.heap.size) (X : z_X p s m #[Value.ref b] meth c code 7 ret lw_tbl "StreamForgeLaw" D dA B) : ∀ n : Nat, ∀ (v1 : Nat) (v2 : Nat) (v3 : Nat) (v4 : Int32) (h : z_H) (H : Heap) (locs : List Loc) (ls : Array Slot) (cells slots : Nat), z_I D dA B h s.heap H locs → lv_has ls 7 [(0, .ref b), (1, .ref v1), (2, .ref v2), (3, .ref v3), (4, .int v4)] → (cells + n ≤ 601024 ∧ slots + 6 * n ≤ 7293034) → f_law_23 N L xs n v1 v2 v3 v4 h = some 1 → W p l e room_1 s m #[Value.ref b] below meth c H locs cells slots (lw_Z below #[Value.ref b] s) (F0 m 23 ls []) := by
  have hx := z_hx X
  have hb := z_hb X
  intro n
  induction n with
  | zero => intro v1 v2 v3 v4 h H locs ls cells slots hI hl hcs hf; rw [f_law_23] at hf; cases hf
  | succ n ih =>
    intro v1 v2 v3 v4 h H locs ls cells slots hI hl hcs hf
    rw [f_law_23] at hf
    refine lv_iload hx hb d_Law_law_23 (lv_at hl 4 rfl) ?_
    refine lv_aload_n hx hb d_Law_law_25 rfl (lv_at hl 0 rfl) ?_
    refine va_slen hx hb hX hbl hbA hI.2 d_Law_law_26 ?_
    refine lv_iconst (v := 5) hx hb d_Law_law_27 (by decide) ?_
    refine lv_isub hx hb d_Law_law_28 ?_
    refine lv_icmp_gt (tgt := 563) hx hb d_Law_law_29 (by decide) (fun c1 => ?_) (fun c1 => ?_)
    · rw [if_pos c1] at hf
      refine lv_iconst (v := 1) hx hb d_Law_law_563 (by decide) ?_
      exact va_forget (fun q hq => hBs ▸ hI.2.2.2 q hq) (W.widen (by omega) (by omega) (lw_ret hx hb X.2.2.2.2.2 X.2.2.2.2.1 d_Law_law_564))
    · rw [if_neg c1] at hf
      refine lv_aload_n hx hb d_Law_law_32 rfl (lv_at hl 0 rfl) ?_
      refine lv_iload hx hb d_Law_law_33 (lv_at hl 4 rfl) ?_
      obtain ⟨x2, ex2, hf⟩ := z_bs hf
      refine va_sld hx hb hX hbl hbA hI.2 (sX_s ex2).1 d_Law_law_35 ?_
      refine z_topi (sX_s ex2).2 ?_
      refine lv_bipush (v := 15) hx hb d_Law_law_36 (by decide) ?_
      refine lv_iand hx hb d_Law_law_38 ?_
      by_cases c3 : (x2 &&& 15) = 0
      · rw [if_pos c3] at hf
        refine lv_tableIn (off := 57) (tgt := 96) hx hb d_Law_law_39 (by rw [c3]; decide) (by rw [c3]; decide) (by rw [c3]; rfl) (by decide) ?_
        refine lv_aload_n hx hb d_Law_law_96 rfl (lv_at hl 1 rfl) ?_
        refine lv_aload_n hx hb d_Law_law_97 rfl (lv_at hl 0 rfl) ?_
        refine lv_iload hx hb d_Law_law_98 (lv_at hl 4 rfl) ?_
        refine lv_iconst (v := 1) hx hb d_Law_law_100 (by decide) ?_
        refine lv_iadd hx hb d_Law_law_101 ?_
        obtain ⟨x4, ex4, hf⟩ := z_bs hf
        refine va_sld hx hb hX hbl hbA hI.2 (sX_s ex4).1 d_Law_law_102 ?_
        refine z_topi (sX_s ex4).2 ?_
        refine lv_i2l hx hb d_Law_law_103 rfl ?_
        refine lv_bipush (v := 32) hx hb d_Law_law_104 (by decide) ?_
        refine lv_lshl hx hb d_Law_law_106 rfl ?_
        refine lv_aload_n hx hb d_Law_law_107 rfl (lv_at hl 0 rfl) ?_
        refine lv_iload hx hb d_Law_law_108 (lv_at hl 4 rfl) ?_
        refine lv_iconst (v := 2) hx hb d_Law_law_110 (by decide) ?_
        refine lv_iadd hx hb d_Law_law_111 ?_
        obtain ⟨x5, ex5, hf⟩ := z_bs hf
        refine va_sld hx hb hX hbl hbA hI.2 (sX_s ex5).1 d_Law_law_112 ?_
        refine z_topi (sX_s ex5).2 ?_
        refine lv_i2l hx hb d_Law_law_113 rfl ?_
        refine lv_ldc2 (v := 4294967295) hx hb X.1.2.2.2.1 (z_w X wc_Law_56) d_Law_law_114 ?_
        refine lv_land hx hb d_Law_law_117 ?_
        refine lv_lor hx hb d_Law_law_118 ?_
        refine lv_aload_n hx hb d_Law_law_119 rfl (lv_at hl 3 rfl) ?_
        obtain ⟨r6, er6, hf⟩ := z_bs hf
        refine zw_callS (As := [.ref v1, .long (((Int32.toInt64 x4) <<< (Int32.toInt64 32 &&& 63)) ||| ((Int32.toInt64 x5) &&& 4294967295)), .ref v3]) (rest := []) (r := (some (.int r6.1))) (h' := r6.2) X hSt hI (s_Law_script hlt er6) wm_Law_58 yi_Law_script rfl hl.1 rfl (Nat.le_of_ble_eq_true rfl) (by decide) (by show _ ≤ 601024 ∧ _ ≤ 7293034; omega) d_Law_law_120 (fun H locs hI => ?_)
        refine W.eq (g2 := F0 m 123 ls [.int (r6.1)]) rfl ?_
        obtain ⟨x7, ex7, hf⟩ := z_bs hf
        refine z_topi (Option.some.inj ex7) ?_
        refine lv_istore (lv' := [(5, .int x7), (0, .ref b), (1, .ref v1), (2, .ref v2), (3, .ref v3), (4, .int v4)]) hx hb d_Law_law_123 hl (by decide) rfl (fun ls hl => ?_)
        refine lv_aload_n hx hb d_Law_law_125 rfl (lv_at hl 3 rfl) ?_
        refine lv_aload_n hx hb d_Law_law_126 rfl (lv_at hl 1 rfl) ?_
        refine lv_iload hx hb d_Law_law_127 (lv_at hl 5 rfl) ?_
        refine lv_iconst (v := 1) hx hb d_Law_law_129 (by decide) ?_
        refine lv_iadd hx hb d_Law_law_130 ?_
        obtain ⟨x8, ex8, hf⟩ := z_bs hf
        refine va_sld hx hb hX hbl hbA hI.2 (sX_s ex8).1 d_Law_law_131 ?_
        refine z_topi (sX_s ex8).2 ?_
        refine lv_i2l hx hb d_Law_law_132 rfl ?_
        refine lv_bipush (v := 32) hx hb d_Law_law_133 (by decide) ?_
        refine lv_lshl hx hb d_Law_law_135 rfl ?_
        refine lv_aload_n hx hb d_Law_law_136 rfl (lv_at hl 1 rfl) ?_
        refine lv_iload hx hb d_Law_law_137 (lv_at hl 5 rfl) ?_
        refine lv_iconst (v := 2) hx hb d_Law_law_139 (by decide) ?_
        refine lv_iadd hx hb d_Law_law_140 ?_
        obtain ⟨x9, ex9, hf⟩ := z_bs hf
        refine va_sld hx hb hX hbl hbA hI.2 (sX_s ex9).1 d_Law_law_141 ?_
        refine z_topi (sX_s ex9).2 ?_
        refine lv_i2l hx hb d_Law_law_142 rfl ?_
        refine lv_ldc2 (v := 4294967295) hx hb X.1.2.2.2.1 (z_w X wc_Law_56) d_Law_law_143 ?_
        refine lv_land hx hb d_Law_law_146 ?_
        refine lv_lor hx hb d_Law_law_147 ?_
        obtain ⟨u10, eu10, hf⟩ := z_bs hf
        obtain ⟨r11, er11, hf⟩ := z_bs hf
        refine z_callV (As := [.long (((Int32.toInt64 x8) <<< (Int32.toInt64 32 &&& 63)) ||| ((Int32.toInt64 x9) &&& 4294967295))]) (rest := []) (r := (some (.int r11.1))) (h' := r11.2) X hI eu10 (s_Mod_script er11) rfl rfl wm_Law_63 yi_Mod_script rfl hl.1 rfl (Nat.le_of_ble_eq_true rfl) (by decide) (by show _ ≤ 601024 ∧ _ ≤ 7293034; omega) d_Law_law_148 (fun H locs hI => ?_)
        refine W.eq (g2 := F0 m 151 ls [.int (r11.1)]) rfl ?_
        obtain ⟨x12, ex12, hf⟩ := z_bs hf
        refine z_topi (Option.some.inj ex12) ?_
        refine lv_istore (lv' := [(6, .int x12), (5, .int x7), (0, .ref b), (1, .ref v1), (2, .ref v2), (3, .ref v3), (4, .int v4)]) hx hb d_Law_law_151 hl (by decide) rfl (fun ls hl => ?_)
        refine lv_goto (tgt := 557) hx hb d_Law_law_153 (by decide) ?_
        obtain ⟨x13, ex13, hf⟩ := z_bs hf
        refine lv_iinc (v := x13) (lv' := [(4, .int x13), (6, .int x12), (5, .int x7), (0, .ref b), (1, .ref v1), (2, .ref v2), (3, .ref v3)]) hx hb d_Law_law_557 hl (k := 6) rfl (by rw [← Option.some.inj ex13]; rfl) (by decide) rfl (fun ls hl => ?_)
        refine lv_goto (tgt := 23) hx hb d_Law_law_560 (by decide) ?_
        exact ih v1 v2 v3 x13 r11.2 _ _ _ _ _ hI (lv_sub hl [3, 4, 5, 6, 0] rfl) (by omega) hf
      · rw [if_neg c3] at hf
        by_cases c14 : (x2 &&& 15) = 1
        · rw [if_pos c14] at hf
          refine lv_tableIn (off := 117) (tgt := 156) hx hb d_Law_law_39 (by rw [c14]; decide) (by rw [c14]; decide) (by rw [c14]; rfl) (by decide) ?_
          refine lv_aload_n hx hb d_Law_law_156 rfl (lv_at hl 1 rfl) ?_
          refine lv_aload_n hx hb d_Law_law_157 rfl (lv_at hl 0 rfl) ?_
          refine lv_iload hx hb d_Law_law_158 (lv_at hl 4 rfl) ?_
          refine lv_iconst (v := 1) hx hb d_Law_law_160 (by decide) ?_
          refine lv_iadd hx hb d_Law_law_161 ?_
          obtain ⟨x15, ex15, hf⟩ := z_bs hf
          refine va_sld hx hb hX hbl hbA hI.2 (sX_s ex15).1 d_Law_law_162 ?_
          refine z_topi (sX_s ex15).2 ?_
          refine lv_aload_n hx hb d_Law_law_163 rfl (lv_at hl 3 rfl) ?_
          obtain ⟨r16, er16, hf⟩ := z_bs hf
          refine zw_callS (As := [.ref v1, .int x15, .ref v3]) (rest := []) (r := (some (.int r16.1))) (h' := r16.2) X hSt hI (s_Law_clear hlt er16) wm_Law_64 yi_Law_clear rfl hl.1 rfl (Nat.le_of_ble_eq_true rfl) (by decide) (by show _ ≤ 601024 ∧ _ ≤ 7293034; omega) d_Law_law_164 (fun H locs hI => ?_)
          refine W.eq (g2 := F0 m 167 ls [.int (r16.1)]) rfl ?_
          obtain ⟨x17, ex17, hf⟩ := z_bs hf
          refine z_topi (Option.some.inj ex17) ?_
          refine lv_istore (lv' := [(5, .int x17), (0, .ref b), (1, .ref v1), (2, .ref v2), (3, .ref v3), (4, .int v4)]) hx hb d_Law_law_167 hl (by decide) rfl (fun ls hl => ?_)
          refine lv_aload_n hx hb d_Law_law_169 rfl (lv_at hl 3 rfl) ?_
          refine lv_aload_n hx hb d_Law_law_170 rfl (lv_at hl 1 rfl) ?_
          refine lv_iload hx hb d_Law_law_171 (lv_at hl 5 rfl) ?_
          refine lv_iconst (v := 1) hx hb d_Law_law_173 (by decide) ?_
          refine lv_iadd hx hb d_Law_law_174 ?_
          obtain ⟨x18, ex18, hf⟩ := z_bs hf
          refine va_sld hx hb hX hbl hbA hI.2 (sX_s ex18).1 d_Law_law_175 ?_
          refine z_topi (sX_s ex18).2 ?_
          obtain ⟨u19, eu19, hf⟩ := z_bs hf
          obtain ⟨r20, er20, hf⟩ := z_bs hf
          refine z_callV (As := [.int x18]) (rest := []) (r := (some (.int r20.1))) (h' := r20.2) X hI eu19 (s_Mod_clear er20) rfl rfl wm_Law_67 yi_Mod_clear rfl hl.1 rfl (Nat.le_of_ble_eq_true rfl) (by decide) (by show _ ≤ 601024 ∧ _ ≤ 7293034; omega) d_Law_law_176 (fun H locs hI => ?_)
          refine W.eq (g2 := F0 m 179 ls [.int (r20.1)]) rfl ?_
          obtain ⟨x21, ex21, hf⟩ := z_bs hf
          refine z_topi (Option.some.inj ex21) ?_
          refine lv_istore (lv' := [(6, .int x21), (5, .int x17), (0, .ref b), (1, .ref v1), (2, .ref v2), (3, .ref v3), (4, .int v4)]) hx hb d_Law_law_179 hl (by decide) rfl (fun ls hl => ?_)
          refine lv_goto (tgt := 557) hx hb d_Law_law_181 (by decide) ?_
          obtain ⟨x22, ex22, hf⟩ := z_bs hf
          refine lv_iinc (v := x22) (lv' := [(4, .int x22), (6, .int x21), (5, .int x17), (0, .ref b), (1, .ref v1), (2, .ref v2), (3, .ref v3)]) hx hb d_Law_law_557 hl (k := 6) rfl (by rw [← Option.some.inj ex22]; rfl) (by decide) rfl (fun ls hl => ?_)
          refine lv_goto (tgt := 23) hx hb d_Law_law_560 (by decide) ?_
          exact ih v1 v2 v3 x22 r20.2 _ _ _ _ _ hI (lv_sub hl [3, 4, 5, 6, 0] rfl) (by omega) hf
        · rw [if_neg c14] at hf
          by_cases c23 : (x2 &&& 15) = 2
          · rw [if_pos c23] at hf
            refine lv_tableIn (off := 145) (tgt := 184) hx hb d_Law_law_39 (by rw [c23]; decide) (by rw [c23]; decide) (by rw [c23]; rfl) (by decide) ?_
            refine lv_aload_n hx hb d_Law_law_184 rfl (lv_at hl 1 rfl) ?_
            refine lv_aload_n hx hb d_Law_law_185 rfl (lv_at hl 3 rfl) ?_
            obtain ⟨r24, er24, hf⟩ := z_bs hf
            refine zw_callS (As := [.ref v1, .ref v3]) (rest := []) (r := (some (.int r24.1))) (h' := r24.2) X hSt hI (s_Law_parse hlt er24) wm_Law_68 yi_Law_parse rfl hl.1 rfl (Nat.le_of_ble_eq_true rfl) (by decide) (by show _ ≤ 601024 ∧ _ ≤ 7293034; omega) d_Law_law_186 (fun H locs hI => ?_)
            refine W.eq (g2 := F0 m 189 ls [.int (r24.1)]) rfl ?_
            obtain ⟨x25, ex25, hf⟩ := z_bs hf
            refine z_topi (Option.some.inj ex25) ?_
            refine lv_istore (lv' := [(5, .int x25), (0, .ref b), (1, .ref v1), (2, .ref v2), (3, .ref v3), (4, .int v4)]) hx hb d_Law_law_189 hl (by decide) rfl (fun ls hl => ?_)
            refine lv_aload_n hx hb d_Law_law_191 rfl (lv_at hl 3 rfl) ?_
            obtain ⟨u26, eu26, hf⟩ := z_bs hf
            obtain ⟨r27, er27, hf⟩ := z_bs hf
            refine z_callV (As := []) (rest := []) (r := (some (.int r27.1))) (h' := r27.2) X hI eu26 (s_Mod_parse er27) rfl rfl wm_Law_71 yi_Mod_parse rfl hl.1 rfl (Nat.le_of_ble_eq_true rfl) (by decide) (by show _ ≤ 601024 ∧ _ ≤ 7293034; omega) d_Law_law_192 (fun H locs hI => ?_)
            refine W.eq (g2 := F0 m 195 ls [.int (r27.1)]) rfl ?_
            obtain ⟨x28, ex28, hf⟩ := z_bs hf
            refine z_topi (Option.some.inj ex28) ?_
            refine lv_istore (lv' := [(6, .int x28), (5, .int x25), (0, .ref b), (1, .ref v1), (2, .ref v2), (3, .ref v3), (4, .int v4)]) hx hb d_Law_law_195 hl (by decide) rfl (fun ls hl => ?_)
            refine lv_goto (tgt := 557) hx hb d_Law_law_197 (by decide) ?_
            obtain ⟨x29, ex29, hf⟩ := z_bs hf
            refine lv_iinc (v := x29) (lv' := [(4, .int x29), (6, .int x28), (5, .int x25), (0, .ref b), (1, .ref v1), (2, .ref v2), (3, .ref v3)]) hx hb d_Law_law_557 hl (k := 6) rfl (by rw [← Option.some.inj ex29]; rfl) (by decide) rfl (fun ls hl => ?_)
            refine lv_goto (tgt := 23) hx hb d_Law_law_560 (by decide) ?_
            exact ih v1 v2 v3 x29 r27.2 _ _ _ _ _ hI (lv_sub hl [3, 4, 5, 6, 0] rfl) (by omega) hf
          · rw [if_neg c23] at hf
            by_cases c30 : (x2 &&& 15) = 3
            · rw [if_pos c30] at hf
              refine lv_tableIn (off := 161) (tgt := 200) hx hb d_Law_law_39 (by rw [c30]; decide) (by rw [c30]; decide) (by rw [c30]; rfl) (by decide) ?_
              refine lv_aload_n hx hb d_Law_law_200 rfl (lv_at hl 1 rfl) ?_
              obtain ⟨u31, eu31, hf⟩ := z_bs hf
              obtain ⟨r32, er32, hf⟩ := z_bs hf
              refine z_callV (As := []) (rest := []) (r := (some (.int r32.1))) (h' := r32.2) X hI eu31 (s_SF_where er32) rfl rfl wm_Law_72 yi_SF_where rfl hl.1 rfl (Nat.le_of_ble_eq_true rfl) (by decide) (by show _ ≤ 601024 ∧ _ ≤ 7293034; omega) d_Law_law_201 (fun H locs hI => ?_)
              refine W.eq (g2 := F0 m 204 ls [.int (r32.1)]) rfl ?_
              refine lv_pop hx hb d_Law_law_204 rfl ?_
              refine lv_aload_n hx hb d_Law_law_205 rfl (lv_at hl 2 rfl) ?_
              obtain ⟨u33, eu33, hf⟩ := z_bs hf
              obtain ⟨r34, er34, hf⟩ := z_bs hf
              refine z_callV (As := []) (rest := []) (r := (some (.int r34.1))) (h' := r34.2) X hI eu33 (s_Mod_where er34) rfl rfl wm_Law_75 yi_Mod_where rfl hl.1 rfl (Nat.le_of_ble_eq_true rfl) (by decide) (by show _ ≤ 601024 ∧ _ ≤ 7293034; omega) d_Law_law_206 (fun H locs hI => ?_)
              refine W.eq (g2 := F0 m 209 ls [.int (r34.1)]) rfl ?_
              refine lv_pop hx hb d_Law_law_209 rfl ?_
              refine lv_goto (tgt := 557) hx hb d_Law_law_210 (by decide) ?_
              obtain ⟨x35, ex35, hf⟩ := z_bs hf
              refine lv_iinc (v := x35) (lv' := [(4, .int x35), (0, .ref b), (1, .ref v1), (2, .ref v2), (3, .ref v3)]) hx hb d_Law_law_557 hl (k := 4) rfl (by rw [← Option.some.inj ex35]; rfl) (by decide) rfl (fun ls hl => ?_)
              refine lv_goto (tgt := 23) hx hb d_Law_law_560 (by decide) ?_
              exact ih v1 v2 v3 x35 r34.2 _ _ _ _ _ hI (lv_sub hl [1, 2, 3, 4, 0] rfl) (by omega) hf
            · rw [if_neg c30] at hf
              by_cases c36 : (x2 &&& 15) = 4
              · rw [if_pos c36] at hf
                refine lv_tableIn (off := 174) (tgt := 213) hx hb d_Law_law_39 (by rw [c36]; decide) (by rw [c36]; decide) (by rw [c36]; rfl) (by decide) ?_
                refine lv_aload_n hx hb d_Law_law_213 rfl (lv_at hl 1 rfl) ?_
                refine lv_aload_n hx hb d_Law_law_214 rfl (lv_at hl 0 rfl) ?_
                refine lv_iload hx hb d_Law_law_215 (lv_at hl 4 rfl) ?_
                refine lv_iconst (v := 1) hx hb d_Law_law_217 (by decide) ?_
                refine lv_iadd hx hb d_Law_law_218 ?_
                obtain ⟨x37, ex37, hf⟩ := z_bs hf
                refine va_sld hx hb hX hbl hbA hI.2 (sX_s ex37).1 d_Law_law_219 ?_
                refine z_topi (sX_s ex37).2 ?_
                refine lv_i2l hx hb d_Law_law_220 rfl ?_
                refine lv_bipush (v := 32) hx hb d_Law_law_221 (by decide) ?_
                refine lv_lshl hx hb d_Law_law_223 rfl ?_
                refine lv_aload_n hx hb d_Law_law_224 rfl (lv_at hl 0 rfl) ?_
                refine lv_iload hx hb d_Law_law_225 (lv_at hl 4 rfl) ?_
                refine lv_iconst (v := 2) hx hb d_Law_law_227 (by decide) ?_
                refine lv_iadd hx hb d_Law_law_228 ?_
                obtain ⟨x38, ex38, hf⟩ := z_bs hf
                refine va_sld hx hb hX hbl hbA hI.2 (sX_s ex38).1 d_Law_law_229 ?_
                refine z_topi (sX_s ex38).2 ?_
                refine lv_i2l hx hb d_Law_law_230 rfl ?_
                refine lv_ldc2 (v := 4294967295) hx hb X.1.2.2.2.1 (z_w X wc_Law_56) d_Law_law_231 ?_
                refine lv_land hx hb d_Law_law_234 ?_
                refine lv_lor hx hb d_Law_law_235 ?_
                refine lv_aload_n hx hb d_Law_law_236 rfl (lv_at hl 0 rfl) ?_
                refine lv_iload hx hb d_Law_law_237 (lv_at hl 4 rfl) ?_
                refine lv_iconst (v := 3) hx hb d_Law_law_239 (by decide) ?_
                refine lv_iadd hx hb d_Law_law_240 ?_
                obtain ⟨x39, ex39, hf⟩ := z_bs hf
                refine va_sld hx hb hX hbl hbA hI.2 (sX_s ex39).1 d_Law_law_241 ?_
                refine z_topi (sX_s ex39).2 ?_
                refine lv_i2l hx hb d_Law_law_242 rfl ?_
                refine lv_bipush (v := 32) hx hb d_Law_law_243 (by decide) ?_
                refine lv_lshl hx hb d_Law_law_245 rfl ?_
                refine lv_aload_n hx hb d_Law_law_246 rfl (lv_at hl 0 rfl) ?_
                refine lv_iload hx hb d_Law_law_247 (lv_at hl 4 rfl) ?_
                refine lv_iconst (v := 4) hx hb d_Law_law_249 (by decide) ?_
                refine lv_iadd hx hb d_Law_law_250 ?_
                obtain ⟨x40, ex40, hf⟩ := z_bs hf
                refine va_sld hx hb hX hbl hbA hI.2 (sX_s ex40).1 d_Law_law_251 ?_
                refine z_topi (sX_s ex40).2 ?_
                refine lv_i2l hx hb d_Law_law_252 rfl ?_
                refine lv_ldc2 (v := 4294967295) hx hb X.1.2.2.2.1 (z_w X wc_Law_56) d_Law_law_253 ?_
                refine lv_land hx hb d_Law_law_256 ?_
                refine lv_lor hx hb d_Law_law_257 ?_
                refine lv_aload_n hx hb d_Law_law_258 rfl (lv_at hl 3 rfl) ?_
                obtain ⟨r41, er41, hf⟩ := z_bs hf
                refine zw_callS (As := [.ref v1, .long (((Int32.toInt64 x37) <<< (Int32.toInt64 32 &&& 63)) ||| ((Int32.toInt64 x38) &&& 4294967295)), .long (((Int32.toInt64 x39) <<< (Int32.toInt64 32 &&& 63)) ||| ((Int32.toInt64 x40) &&& 4294967295)), .ref v3]) (rest := []) (r := (some (.int r41.1))) (h' := r41.2) X hSt hI (s_Law_line hlt er41) wm_Law_76 yi_Law_line rfl hl.1 rfl (Nat.le_of_ble_eq_true rfl) (by decide) (by show _ ≤ 601024 ∧ _ ≤ 7293034; omega) d_Law_law_259 (fun H locs hI => ?_)
                refine W.eq (g2 := F0 m 262 ls [.int (r41.1)]) rfl ?_
                obtain ⟨x42, ex42, hf⟩ := z_bs hf
                refine z_topi (Option.some.inj ex42) ?_
                refine lv_istore (lv' := [(5, .int x42), (0, .ref b), (1, .ref v1), (2, .ref v2), (3, .ref v3), (4, .int v4)]) hx hb d_Law_law_262 hl (by decide) rfl (fun ls hl => ?_)
                refine lv_aload_n hx hb d_Law_law_264 rfl (lv_at hl 3 rfl) ?_
                refine lv_aload_n hx hb d_Law_law_265 rfl (lv_at hl 1 rfl) ?_
                refine lv_iload hx hb d_Law_law_266 (lv_at hl 5 rfl) ?_
                refine lv_iconst (v := 1) hx hb d_Law_law_268 (by decide) ?_
                refine lv_iadd hx hb d_Law_law_269 ?_
                obtain ⟨x43, ex43, hf⟩ := z_bs hf
                refine va_sld hx hb hX hbl hbA hI.2 (sX_s ex43).1 d_Law_law_270 ?_
                refine z_topi (sX_s ex43).2 ?_
                refine lv_i2l hx hb d_Law_law_271 rfl ?_
                refine lv_bipush (v := 32) hx hb d_Law_law_272 (by decide) ?_
                refine lv_lshl hx hb d_Law_law_274 rfl ?_
                refine lv_aload_n hx hb d_Law_law_275 rfl (lv_at hl 1 rfl) ?_
                refine lv_iload hx hb d_Law_law_276 (lv_at hl 5 rfl) ?_
                refine lv_iconst (v := 2) hx hb d_Law_law_278 (by decide) ?_
                refine lv_iadd hx hb d_Law_law_279 ?_
                obtain ⟨x44, ex44, hf⟩ := z_bs hf
                refine va_sld hx hb hX hbl hbA hI.2 (sX_s ex44).1 d_Law_law_280 ?_
                refine z_topi (sX_s ex44).2 ?_
                refine lv_i2l hx hb d_Law_law_281 rfl ?_
                refine lv_ldc2 (v := 4294967295) hx hb X.1.2.2.2.1 (z_w X wc_Law_56) d_Law_law_282 ?_
                refine lv_land hx hb d_Law_law_285 ?_
                refine lv_lor hx hb d_Law_law_286 ?_
                refine lv_aload_n hx hb d_Law_law_287 rfl (lv_at hl 1 rfl) ?_
                refine lv_iload hx hb d_Law_law_288 (lv_at hl 5 rfl) ?_
                refine lv_iconst (v := 3) hx hb d_Law_law_290 (by decide) ?_
                refine lv_iadd hx hb d_Law_law_291 ?_
                obtain ⟨x45, ex45, hf⟩ := z_bs hf
                refine va_sld hx hb hX hbl hbA hI.2 (sX_s ex45).1 d_Law_law_292 ?_
                refine z_topi (sX_s ex45).2 ?_
                refine lv_i2l hx hb d_Law_law_293 rfl ?_
                refine lv_bipush (v := 32) hx hb d_Law_law_294 (by decide) ?_
                refine lv_lshl hx hb d_Law_law_296 rfl ?_
                refine lv_aload_n hx hb d_Law_law_297 rfl (lv_at hl 1 rfl) ?_
                refine lv_iload hx hb d_Law_law_298 (lv_at hl 5 rfl) ?_
                refine lv_iconst (v := 4) hx hb d_Law_law_300 (by decide) ?_
                refine lv_iadd hx hb d_Law_law_301 ?_
                obtain ⟨x46, ex46, hf⟩ := z_bs hf
                refine va_sld hx hb hX hbl hbA hI.2 (sX_s ex46).1 d_Law_law_302 ?_
                refine z_topi (sX_s ex46).2 ?_
                refine lv_i2l hx hb d_Law_law_303 rfl ?_
                refine lv_ldc2 (v := 4294967295) hx hb X.1.2.2.2.1 (z_w X wc_Law_56) d_Law_law_304 ?_
                refine lv_land hx hb d_Law_law_307 ?_
                refine lv_lor hx hb d_Law_law_308 ?_
                obtain ⟨u47, eu47, hf⟩ := z_bs hf
                obtain ⟨r48, er48, hf⟩ := z_bs hf
                refine z_callV (As := [.long (((Int32.toInt64 x43) <<< (Int32.toInt64 32 &&& 63)) ||| ((Int32.toInt64 x44) &&& 4294967295)), .long (((Int32.toInt64 x45) <<< (Int32.toInt64 32 &&& 63)) ||| ((Int32.toInt64 x46) &&& 4294967295))]) (rest := []) (r := (some (.int r48.1))) (h' := r48.2) X hI eu47 (s_Mod_line er48) rfl rfl wm_Law_79 yi_Mod_line rfl hl.1 rfl (Nat.le_of_ble_eq_true rfl) (by decide) (by show _ ≤ 601024 ∧ _ ≤ 7293034; omega) d_Law_law_309 (fun H locs hI => ?_)
                refine W.eq (g2 := F0 m 312 ls [.int (r48.1)]) rfl ?_
                obtain ⟨x49, ex49, hf⟩ := z_bs hf
                refine z_topi (Option.some.inj ex49) ?_
                refine lv_istore (lv' := [(6, .int x49), (5, .int x42), (0, .ref b), (1, .ref v1), (2, .ref v2), (3, .ref v3), (4, .int v4)]) hx hb d_Law_law_312 hl (by decide) rfl (fun ls hl => ?_)
                refine lv_goto (tgt := 557) hx hb d_Law_law_314 (by decide) ?_
                obtain ⟨x50, ex50, hf⟩ := z_bs hf
                refine lv_iinc (v := x50) (lv' := [(4, .int x50), (6, .int x49), (5, .int x42), (0, .ref b), (1, .ref v1), (2, .ref v2), (3, .ref v3)]) hx hb d_Law_law_557 hl (k := 6) rfl (by rw [← Option.some.inj ex50]; rfl) (by decide) rfl (fun ls hl => ?_)
                refine lv_goto (tgt := 23) hx hb d_Law_law_560 (by decide) ?_
                exact ih v1 v2 v3 x50 r48.2 _ _ _ _ _ hI (lv_sub hl [3, 4, 5, 6, 0] rfl) (by omega) hf
              · rw [if_neg c36] at hf
                by_cases c51 : (x2 &&& 15) = 5
                · rw [if_pos c51] at hf
                  refine lv_tableIn (off := 278) (tgt := 317) hx hb d_Law_law_39 (by rw [c51]; decide) (by rw [c51]; decide) (by rw [c51]; rfl) (by decide) ?_
                  refine lv_aload_n hx hb d_Law_law_317 rfl (lv_at hl 1 rfl) ?_
                  refine lv_aload_n hx hb d_Law_law_318 rfl (lv_at hl 0 rfl) ?_
                  refine lv_iload hx hb d_Law_law_319 (lv_at hl 4 rfl) ?_
                  refine lv_iconst (v := 1) hx hb d_Law_law_321 (by decide) ?_
                  refine lv_iadd hx hb d_Law_law_322 ?_
                  obtain ⟨x52, ex52, hf⟩ := z_bs hf
                  refine va_sld hx hb hX hbl hbA hI.2 (sX_s ex52).1 d_Law_law_323 ?_
                  refine z_topi (sX_s ex52).2 ?_
                  refine lv_i2l hx hb d_Law_law_324 rfl ?_
                  refine lv_bipush (v := 32) hx hb d_Law_law_325 (by decide) ?_
                  refine lv_lshl hx hb d_Law_law_327 rfl ?_
                  refine lv_aload_n hx hb d_Law_law_328 rfl (lv_at hl 0 rfl) ?_
                  refine lv_iload hx hb d_Law_law_329 (lv_at hl 4 rfl) ?_
                  refine lv_iconst (v := 2) hx hb d_Law_law_331 (by decide) ?_
                  refine lv_iadd hx hb d_Law_law_332 ?_
                  obtain ⟨x53, ex53, hf⟩ := z_bs hf
                  refine va_sld hx hb hX hbl hbA hI.2 (sX_s ex53).1 d_Law_law_333 ?_
                  refine z_topi (sX_s ex53).2 ?_
                  refine lv_i2l hx hb d_Law_law_334 rfl ?_
                  refine lv_ldc2 (v := 4294967295) hx hb X.1.2.2.2.1 (z_w X wc_Law_56) d_Law_law_335 ?_
                  refine lv_land hx hb d_Law_law_338 ?_
                  refine lv_lor hx hb d_Law_law_339 ?_
                  refine lv_aload_n hx hb d_Law_law_340 rfl (lv_at hl 3 rfl) ?_
                  obtain ⟨r54, er54, hf⟩ := z_bs hf
                  refine zw_callS (As := [.ref v1, .long (((Int32.toInt64 x52) <<< (Int32.toInt64 32 &&& 63)) ||| ((Int32.toInt64 x53) &&& 4294967295)), .ref v3]) (rest := []) (r := (some (.int r54.1))) (h' := r54.2) X hSt hI (s_Law_more hlt er54) wm_Law_80 yi_Law_more rfl hl.1 rfl (Nat.le_of_ble_eq_true rfl) (by decide) (by show _ ≤ 601024 ∧ _ ≤ 7293034; omega) d_Law_law_341 (fun H locs hI => ?_)
                  refine W.eq (g2 := F0 m 344 ls [.int (r54.1)]) rfl ?_
                  obtain ⟨x55, ex55, hf⟩ := z_bs hf
                  refine z_topi (Option.some.inj ex55) ?_
                  refine lv_istore (lv' := [(5, .int x55), (0, .ref b), (1, .ref v1), (2, .ref v2), (3, .ref v3), (4, .int v4)]) hx hb d_Law_law_344 hl (by decide) rfl (fun ls hl => ?_)
                  refine lv_aload_n hx hb d_Law_law_346 rfl (lv_at hl 3 rfl) ?_
                  refine lv_aload_n hx hb d_Law_law_347 rfl (lv_at hl 1 rfl) ?_
                  refine lv_iload hx hb d_Law_law_348 (lv_at hl 5 rfl) ?_
                  refine lv_iconst (v := 1) hx hb d_Law_law_350 (by decide) ?_
                  refine lv_iadd hx hb d_Law_law_351 ?_
                  obtain ⟨x56, ex56, hf⟩ := z_bs hf
                  refine va_sld hx hb hX hbl hbA hI.2 (sX_s ex56).1 d_Law_law_352 ?_
                  refine z_topi (sX_s ex56).2 ?_
                  refine lv_i2l hx hb d_Law_law_353 rfl ?_
                  refine lv_bipush (v := 32) hx hb d_Law_law_354 (by decide) ?_
                  refine lv_lshl hx hb d_Law_law_356 rfl ?_
                  refine lv_aload_n hx hb d_Law_law_357 rfl (lv_at hl 1 rfl) ?_
                  refine lv_iload hx hb d_Law_law_358 (lv_at hl 5 rfl) ?_
                  refine lv_iconst (v := 2) hx hb d_Law_law_360 (by decide) ?_
                  refine lv_iadd hx hb d_Law_law_361 ?_
                  obtain ⟨x57, ex57, hf⟩ := z_bs hf
                  refine va_sld hx hb hX hbl hbA hI.2 (sX_s ex57).1 d_Law_law_362 ?_
                  refine z_topi (sX_s ex57).2 ?_
                  refine lv_i2l hx hb d_Law_law_363 rfl ?_
                  refine lv_ldc2 (v := 4294967295) hx hb X.1.2.2.2.1 (z_w X wc_Law_56) d_Law_law_364 ?_
                  refine lv_land hx hb d_Law_law_367 ?_
                  refine lv_lor hx hb d_Law_law_368 ?_
                  obtain ⟨u58, eu58, hf⟩ := z_bs hf
                  obtain ⟨r59, er59, hf⟩ := z_bs hf
                  refine z_callV (As := [.long (((Int32.toInt64 x56) <<< (Int32.toInt64 32 &&& 63)) ||| ((Int32.toInt64 x57) &&& 4294967295))]) (rest := []) (r := (some (.int r59.1))) (h' := r59.2) X hI eu58 (s_Mod_more er59) rfl rfl wm_Law_82 yi_Mod_more rfl hl.1 rfl (Nat.le_of_ble_eq_true rfl) (by decide) (by show _ ≤ 601024 ∧ _ ≤ 7293034; omega) d_Law_law_369 (fun H locs hI => ?_)
                  refine W.eq (g2 := F0 m 372 ls [.int (r59.1)]) rfl ?_
                  obtain ⟨x60, ex60, hf⟩ := z_bs hf
                  refine z_topi (Option.some.inj ex60) ?_
                  refine lv_istore (lv' := [(6, .int x60), (5, .int x55), (0, .ref b), (1, .ref v1), (2, .ref v2), (3, .ref v3), (4, .int v4)]) hx hb d_Law_law_372 hl (by decide) rfl (fun ls hl => ?_)
                  refine lv_goto (tgt := 557) hx hb d_Law_law_374 (by decide) ?_
                  obtain ⟨x61, ex61, hf⟩ := z_bs hf
                  refine lv_iinc (v := x61) (lv' := [(4, .int x61), (6, .int x60), (5, .int x55), (0, .ref b), (1, .ref v1), (2, .ref v2), (3, .ref v3)]) hx hb d_Law_law_557 hl (k := 6) rfl (by rw [← Option.some.inj ex61]; rfl) (by decide) rfl (fun ls hl => ?_)
                  refine lv_goto (tgt := 23) hx hb d_Law_law_560 (by decide) ?_
                  exact ih v1 v2 v3 x61 r59.2 _ _ _ _ _ hI (lv_sub hl [3, 4, 5, 6, 0] rfl) (by omega) hf
                · rw [if_neg c51] at hf
                  by_cases c62 : (x2 &&& 15) = 6
                  · rw [if_pos c62] at hf
                    refine lv_tableIn (off := 338) (tgt := 377) hx hb d_Law_law_39 (by rw [c62]; decide) (by rw [c62]; decide) (by rw [c62]; rfl) (by decide) ?_
                    refine lv_aload_n hx hb d_Law_law_377 rfl (lv_at hl 1 rfl) ?_
                    refine lv_aload_n hx hb d_Law_law_378 rfl (lv_at hl 3 rfl) ?_
                    obtain ⟨r63, er63, hf⟩ := z_bs hf
                    refine zw_callS (As := [.ref v1, .ref v3]) (rest := []) (r := (some (.int r63.1))) (h' := r63.2) X hSt hI (s_Law_run hlt er63) wm_Law_83 yi_Law_run rfl hl.1 rfl (Nat.le_of_ble_eq_true rfl) (by decide) (by show _ ≤ 601024 ∧ _ ≤ 7293034; omega) d_Law_law_379 (fun H locs hI => ?_)
                    refine W.eq (g2 := F0 m 382 ls [.int (r63.1)]) rfl ?_
                    obtain ⟨x64, ex64, hf⟩ := z_bs hf
                    refine z_topi (Option.some.inj ex64) ?_
                    refine lv_istore (lv' := [(5, .int x64), (0, .ref b), (1, .ref v1), (2, .ref v2), (3, .ref v3), (4, .int v4)]) hx hb d_Law_law_382 hl (by decide) rfl (fun ls hl => ?_)
                    refine lv_aload_n hx hb d_Law_law_384 rfl (lv_at hl 3 rfl) ?_
                    obtain ⟨u65, eu65, hf⟩ := z_bs hf
                    obtain ⟨r66, er66, hf⟩ := z_bs hf
                    refine z_callV (As := []) (rest := []) (r := (some (.int r66.1))) (h' := r66.2) X hI eu65 (s_Mod_run er66) rfl rfl wm_Law_85 yi_Mod_run rfl hl.1 rfl (Nat.le_of_ble_eq_true rfl) (by decide) (by show _ ≤ 601024 ∧ _ ≤ 7293034; omega) d_Law_law_385 (fun H locs hI => ?_)
                    refine W.eq (g2 := F0 m 388 ls [.int (r66.1)]) rfl ?_
                    obtain ⟨x67, ex67, hf⟩ := z_bs hf
                    refine z_topi (Option.some.inj ex67) ?_
                    refine lv_istore (lv' := [(6, .int x67), (5, .int x64), (0, .ref b), (1, .ref v1), (2, .ref v2), (3, .ref v3), (4, .int v4)]) hx hb d_Law_law_388 hl (by decide) rfl (fun ls hl => ?_)
                    refine lv_goto (tgt := 557) hx hb d_Law_law_390 (by decide) ?_
                    obtain ⟨x68, ex68, hf⟩ := z_bs hf
                    refine lv_iinc (v := x68) (lv' := [(4, .int x68), (6, .int x67), (5, .int x64), (0, .ref b), (1, .ref v1), (2, .ref v2), (3, .ref v3)]) hx hb d_Law_law_557 hl (k := 6) rfl (by rw [← Option.some.inj ex68]; rfl) (by decide) rfl (fun ls hl => ?_)
                    refine lv_goto (tgt := 23) hx hb d_Law_law_560 (by decide) ?_
                    exact ih v1 v2 v3 x68 r66.2 _ _ _ _ _ hI (lv_sub hl [3, 4, 5, 6, 0] rfl) (by omega) hf
                  · rw [if_neg c62] at hf
                    by_cases c69 : (x2 &&& 15) = 7
                    · rw [if_pos c69] at hf
                      refine lv_tableIn (off := 354) (tgt := 393) hx hb d_Law_law_39 (by rw [c69]; decide) (by rw [c69]; decide) (by rw [c69]; rfl) (by decide) ?_
                      refine lv_aload_n hx hb d_Law_law_393 rfl (lv_at hl 1 rfl) ?_
                      refine lv_aload_n hx hb d_Law_law_394 rfl (lv_at hl 0 rfl) ?_
                      refine lv_iload hx hb d_Law_law_395 (lv_at hl 4 rfl) ?_
                      refine lv_iconst (v := 1) hx hb d_Law_law_397 (by decide) ?_
                      refine lv_iadd hx hb d_Law_law_398 ?_
                      obtain ⟨x70, ex70, hf⟩ := z_bs hf
                      refine va_sld hx hb hX hbl hbA hI.2 (sX_s ex70).1 d_Law_law_399 ?_
                      refine z_topi (sX_s ex70).2 ?_
                      refine lv_aload_n hx hb d_Law_law_400 rfl (lv_at hl 3 rfl) ?_
                      obtain ⟨r71, er71, hf⟩ := z_bs hf
                      refine zw_callS (As := [.ref v1, .int x70, .ref v3]) (rest := []) (r := (some (.int r71.1))) (h' := r71.2) X hSt hI (s_Law_out hlt er71) wm_Law_86 yi_Law_out rfl hl.1 rfl (Nat.le_of_ble_eq_true rfl) (by decide) (by show _ ≤ 601024 ∧ _ ≤ 7293034; omega) d_Law_law_401 (fun H locs hI => ?_)
                      refine W.eq (g2 := F0 m 404 ls [.int (r71.1)]) rfl ?_
                      obtain ⟨x72, ex72, hf⟩ := z_bs hf
                      refine z_topi (Option.some.inj ex72) ?_
                      refine lv_istore (lv' := [(5, .int x72), (0, .ref b), (1, .ref v1), (2, .ref v2), (3, .ref v3), (4, .int v4)]) hx hb d_Law_law_404 hl (by decide) rfl (fun ls hl => ?_)
                      refine lv_aload_n hx hb d_Law_law_406 rfl (lv_at hl 3 rfl) ?_
                      refine lv_aload_n hx hb d_Law_law_407 rfl (lv_at hl 1 rfl) ?_
                      refine lv_iload hx hb d_Law_law_408 (lv_at hl 5 rfl) ?_
                      refine lv_iconst (v := 1) hx hb d_Law_law_410 (by decide) ?_
                      refine lv_iadd hx hb d_Law_law_411 ?_
                      obtain ⟨x73, ex73, hf⟩ := z_bs hf
                      refine va_sld hx hb hX hbl hbA hI.2 (sX_s ex73).1 d_Law_law_412 ?_
                      refine z_topi (sX_s ex73).2 ?_
                      obtain ⟨u74, eu74, hf⟩ := z_bs hf
                      obtain ⟨r75, er75, hf⟩ := z_bs hf
                      refine z_callV (As := [.int x73]) (rest := []) (r := (some (.int r75.1))) (h' := r75.2) X hI eu74 (s_Mod_out er75) rfl rfl wm_Law_88 yi_Mod_out rfl hl.1 rfl (Nat.le_of_ble_eq_true rfl) (by decide) (by show _ ≤ 601024 ∧ _ ≤ 7293034; omega) d_Law_law_413 (fun H locs hI => ?_)
                      refine W.eq (g2 := F0 m 416 ls [.int (r75.1)]) rfl ?_
                      obtain ⟨x76, ex76, hf⟩ := z_bs hf
                      refine z_topi (Option.some.inj ex76) ?_
                      refine lv_istore (lv' := [(6, .int x76), (5, .int x72), (0, .ref b), (1, .ref v1), (2, .ref v2), (3, .ref v3), (4, .int v4)]) hx hb d_Law_law_416 hl (by decide) rfl (fun ls hl => ?_)
                      refine lv_goto (tgt := 557) hx hb d_Law_law_418 (by decide) ?_
                      obtain ⟨x77, ex77, hf⟩ := z_bs hf
                      refine lv_iinc (v := x77) (lv' := [(4, .int x77), (6, .int x76), (5, .int x72), (0, .ref b), (1, .ref v1), (2, .ref v2), (3, .ref v3)]) hx hb d_Law_law_557 hl (k := 6) rfl (by rw [← Option.some.inj ex77]; rfl) (by decide) rfl (fun ls hl => ?_)
                      refine lv_goto (tgt := 23) hx hb d_Law_law_560 (by decide) ?_
                      exact ih v1 v2 v3 x77 r75.2 _ _ _ _ _ hI (lv_sub hl [3, 4, 5, 6, 0] rfl) (by omega) hf
                    · rw [if_neg c69] at hf
                      by_cases c78 : (x2 &&& 15) = 8
                      · rw [if_pos c78] at hf
                        refine lv_tableIn (off := 382) (tgt := 421) hx hb d_Law_law_39 (by rw [c78]; decide) (by rw [c78]; decide) (by rw [c78]; rfl) (by decide) ?_
                        refine lv_aload_n hx hb d_Law_law_421 rfl (lv_at hl 1 rfl) ?_
                        refine lv_aload_n hx hb d_Law_law_422 rfl (lv_at hl 0 rfl) ?_
                        refine lv_iload hx hb d_Law_law_423 (lv_at hl 4 rfl) ?_
                        refine lv_iconst (v := 1) hx hb d_Law_law_425 (by decide) ?_
                        refine lv_iadd hx hb d_Law_law_426 ?_
                        obtain ⟨x79, ex79, hf⟩ := z_bs hf
                        refine va_sld hx hb hX hbl hbA hI.2 (sX_s ex79).1 d_Law_law_427 ?_
                        refine z_topi (sX_s ex79).2 ?_
                        refine lv_aload_n hx hb d_Law_law_428 rfl (lv_at hl 3 rfl) ?_
                        obtain ⟨r80, er80, hf⟩ := z_bs hf
                        refine zw_callS (As := [.ref v1, .int x79, .ref v3]) (rest := []) (r := (some (.int r80.1))) (h' := r80.2) X hSt hI (s_Law_ran hlt er80) wm_Law_89 yi_Law_ran rfl hl.1 rfl (Nat.le_of_ble_eq_true rfl) (by decide) (by show _ ≤ 601024 ∧ _ ≤ 7293034; omega) d_Law_law_429 (fun H locs hI => ?_)
                        refine W.eq (g2 := F0 m 432 ls [.int (r80.1)]) rfl ?_
                        obtain ⟨x81, ex81, hf⟩ := z_bs hf
                        refine z_topi (Option.some.inj ex81) ?_
                        refine lv_istore (lv' := [(5, .int x81), (0, .ref b), (1, .ref v1), (2, .ref v2), (3, .ref v3), (4, .int v4)]) hx hb d_Law_law_432 hl (by decide) rfl (fun ls hl => ?_)
                        refine lv_aload_n hx hb d_Law_law_434 rfl (lv_at hl 3 rfl) ?_
                        refine lv_aload_n hx hb d_Law_law_435 rfl (lv_at hl 1 rfl) ?_
                        refine lv_iload hx hb d_Law_law_436 (lv_at hl 5 rfl) ?_
                        refine lv_iconst (v := 1) hx hb d_Law_law_438 (by decide) ?_
                        refine lv_iadd hx hb d_Law_law_439 ?_
                        obtain ⟨x82, ex82, hf⟩ := z_bs hf
                        refine va_sld hx hb hX hbl hbA hI.2 (sX_s ex82).1 d_Law_law_440 ?_
                        refine z_topi (sX_s ex82).2 ?_
                        obtain ⟨u83, eu83, hf⟩ := z_bs hf
                        obtain ⟨r84, er84, hf⟩ := z_bs hf
                        refine z_callV (As := [.int x82]) (rest := []) (r := (some (.int r84.1))) (h' := r84.2) X hI eu83 (s_Mod_ran er84) rfl rfl wm_Law_91 yi_Mod_ran rfl hl.1 rfl (Nat.le_of_ble_eq_true rfl) (by decide) (by show _ ≤ 601024 ∧ _ ≤ 7293034; omega) d_Law_law_441 (fun H locs hI => ?_)
                        refine W.eq (g2 := F0 m 444 ls [.int (r84.1)]) rfl ?_
                        obtain ⟨x85, ex85, hf⟩ := z_bs hf
                        refine z_topi (Option.some.inj ex85) ?_
                        refine lv_istore (lv' := [(6, .int x85), (5, .int x81), (0, .ref b), (1, .ref v1), (2, .ref v2), (3, .ref v3), (4, .int v4)]) hx hb d_Law_law_444 hl (by decide) rfl (fun ls hl => ?_)
                        refine lv_aload_n hx hb d_Law_law_446 rfl (lv_at hl 4 rfl) ?_
                        obtain ⟨u86, eu86, hf⟩ := z_bs hf
                        obtain ⟨r87, er87, hf⟩ := z_bs hf
                        refine z_callV (As := []) (rest := []) (r := (some (.int r87.1))) (h' := r87.2) X hI eu86 (s_Mod_thrown er87) rfl rfl wm_Law_92 yi_Mod_thrown rfl hl.1 rfl (Nat.le_of_ble_eq_true rfl) (by decide) (by show _ ≤ 601024 ∧ _ ≤ 7293034; omega) d_Law_law_447 (fun H locs hI => ?_)
                        refine W.eq (g2 := F0 m 450 ls [.int (r87.1)]) rfl ?_
                        refine lv_iload hx hb d_Law_law_450 (lv_at hl 1 rfl) ?_
                        refine lv_icmp_eq (tgt := 457) hx hb d_Law_law_452 (by decide) (fun c88 => ?_) (fun c88 => ?_)
                        · rw [if_pos c88] at hf
                          refine lv_iload hx hb d_Law_law_457 (lv_at hl 1 rfl) ?_
                          refine lv_if_ne (tgt := 474) hx hb d_Law_law_459 (by decide) (fun c89 => ?_) (fun c89 => ?_)
                          · rw [if_neg c89] at hf
                            refine lv_goto (tgt := 557) hx hb d_Law_law_474 (by decide) ?_
                            obtain ⟨x90, ex90, hf⟩ := z_bs hf
                            refine lv_iinc (v := x90) (lv' := [(4, .int x90), (6, .int x85), (5, .int x81), (0, .ref b), (1, .ref v1), (2, .ref v2), (3, .ref v3)]) hx hb d_Law_law_557 hl (k := 6) rfl (by rw [← Option.some.inj ex90]; rfl) (by decide) rfl (fun ls hl => ?_)
                            refine lv_goto (tgt := 23) hx hb d_Law_law_560 (by decide) ?_
                            exact ih v1 v2 v3 x90 r87.2 _ _ _ _ _ hI (lv_sub hl [3, 4, 5, 6, 0] rfl) (by omega) hf
                          · rw [if_pos c89] at hf
                            refine lv_aload_n hx hb d_Law_law_462 rfl (lv_at hl 5 rfl) ?_
                            refine lv_iconst (v := 0) hx hb d_Law_law_463 (by decide) ?_
                            obtain ⟨x91, ex91, hf⟩ := z_bs hf
                            refine z_lald X hI ex91 d_Law_law_464 ?_
                            refine lv_iload hx hb d_Law_law_465 (lv_at hl 0 rfl) ?_
                            refine lv_i2l hx hb d_Law_law_467 rfl ?_
                            refine W.lcmp hx hb d_Law_law_468 ?_
                            refine lv_if_eq (tgt := 474) hx hb d_Law_law_469 (by decide) (fun c92 => ?_) (fun c92 => ?_)
                            · rw [if_pos c92] at hf
                              refine lv_goto (tgt := 557) hx hb d_Law_law_474 (by decide) ?_
                              obtain ⟨x93, ex93, hf⟩ := z_bs hf
                              refine lv_iinc (v := x93) (lv' := [(4, .int x93), (6, .int x85), (5, .int x81), (0, .ref b), (1, .ref v1), (2, .ref v2), (3, .ref v3)]) hx hb d_Law_law_557 hl (k := 6) rfl (by rw [← Option.some.inj ex93]; rfl) (by decide) rfl (fun ls hl => ?_)
                              refine lv_goto (tgt := 23) hx hb d_Law_law_560 (by decide) ?_
                              exact ih v1 v2 v3 x93 r87.2 _ _ _ _ _ hI (lv_sub hl [3, 4, 5, 6, 0] rfl) (by omega) hf
                            · rw [if_neg c92] at hf
                              refine lv_iconst (v := 0) hx hb d_Law_law_472 (by decide) ?_
                              exact absurd hf (by decide)
                        · rw [if_neg c88] at hf
                          refine lv_iconst (v := 0) hx hb d_Law_law_455 (by decide) ?_
                          exact absurd hf (by decide)
                      · rw [if_neg c78] at hf
                        by_cases c94 : (x2 &&& 15) = 9
                        · rw [if_pos c94] at hf
                          refine lv_tableIn (off := 438) (tgt := 477) hx hb d_Law_law_39 (by rw [c94]; decide) (by rw [c94]; decide) (by rw [c94]; rfl) (by decide) ?_
                          refine lv_aload_n hx hb d_Law_law_477 rfl (lv_at hl 1 rfl) ?_
                          refine lv_aload_n hx hb d_Law_law_478 rfl (lv_at hl 0 rfl) ?_
                          refine lv_iload hx hb d_Law_law_479 (lv_at hl 4 rfl) ?_
                          refine lv_iconst (v := 1) hx hb d_Law_law_481 (by decide) ?_
                          refine lv_iadd hx hb d_Law_law_482 ?_
                          obtain ⟨x95, ex95, hf⟩ := z_bs hf
                          refine va_sld hx hb hX hbl hbA hI.2 (sX_s ex95).1 d_Law_law_483 ?_
                          refine z_topi (sX_s ex95).2 ?_
                          refine lv_aload_n hx hb d_Law_law_484 rfl (lv_at hl 0 rfl) ?_
                          refine lv_iload hx hb d_Law_law_485 (lv_at hl 4 rfl) ?_
                          refine lv_iconst (v := 2) hx hb d_Law_law_487 (by decide) ?_
                          refine lv_iadd hx hb d_Law_law_488 ?_
                          obtain ⟨x96, ex96, hf⟩ := z_bs hf
                          refine va_sld hx hb hX hbl hbA hI.2 (sX_s ex96).1 d_Law_law_489 ?_
                          refine z_topi (sX_s ex96).2 ?_
                          refine lv_aload_n hx hb d_Law_law_490 rfl (lv_at hl 0 rfl) ?_
                          refine lv_iload hx hb d_Law_law_491 (lv_at hl 4 rfl) ?_
                          refine lv_iconst (v := 3) hx hb d_Law_law_493 (by decide) ?_
                          refine lv_iadd hx hb d_Law_law_494 ?_
                          obtain ⟨x97, ex97, hf⟩ := z_bs hf
                          refine va_sld hx hb hX hbl hbA hI.2 (sX_s ex97).1 d_Law_law_495 ?_
                          refine z_topi (sX_s ex97).2 ?_
                          refine lv_aload_n hx hb d_Law_law_496 rfl (lv_at hl 3 rfl) ?_
                          obtain ⟨r98, er98, hf⟩ := z_bs hf
                          refine zw_callS (As := [.ref v1, .int x95, .int x96, .int x97, .ref v3]) (rest := []) (r := (some (.int r98.1))) (h' := r98.2) X hSt hI (s_Law_match hlt er98) wm_Law_95 yi_Law_match rfl hl.1 rfl (Nat.le_of_ble_eq_true rfl) (by decide) (by show _ ≤ 601024 ∧ _ ≤ 7293034; omega) d_Law_law_497 (fun H locs hI => ?_)
                          refine W.eq (g2 := F0 m 500 ls [.int (r98.1)]) rfl ?_
                          obtain ⟨x99, ex99, hf⟩ := z_bs hf
                          refine z_topi (Option.some.inj ex99) ?_
                          refine lv_istore (lv' := [(5, .int x99), (0, .ref b), (1, .ref v1), (2, .ref v2), (3, .ref v3), (4, .int v4)]) hx hb d_Law_law_500 hl (by decide) rfl (fun ls hl => ?_)
                          refine lv_aload_n hx hb d_Law_law_502 rfl (lv_at hl 3 rfl) ?_
                          refine lv_aload_n hx hb d_Law_law_503 rfl (lv_at hl 1 rfl) ?_
                          refine lv_iload hx hb d_Law_law_504 (lv_at hl 5 rfl) ?_
                          refine lv_iconst (v := 1) hx hb d_Law_law_506 (by decide) ?_
                          refine lv_iadd hx hb d_Law_law_507 ?_
                          obtain ⟨x100, ex100, hf⟩ := z_bs hf
                          refine va_sld hx hb hX hbl hbA hI.2 (sX_s ex100).1 d_Law_law_508 ?_
                          refine z_topi (sX_s ex100).2 ?_
                          refine lv_aload_n hx hb d_Law_law_509 rfl (lv_at hl 1 rfl) ?_
                          refine lv_iload hx hb d_Law_law_510 (lv_at hl 5 rfl) ?_
                          refine lv_iconst (v := 2) hx hb d_Law_law_512 (by decide) ?_
                          refine lv_iadd hx hb d_Law_law_513 ?_
                          obtain ⟨x101, ex101, hf⟩ := z_bs hf
                          refine va_sld hx hb hX hbl hbA hI.2 (sX_s ex101).1 d_Law_law_514 ?_
                          refine z_topi (sX_s ex101).2 ?_
                          refine lv_aload_n hx hb d_Law_law_515 rfl (lv_at hl 1 rfl) ?_
                          refine lv_iload hx hb d_Law_law_516 (lv_at hl 5 rfl) ?_
                          refine lv_iconst (v := 3) hx hb d_Law_law_518 (by decide) ?_
                          refine lv_iadd hx hb d_Law_law_519 ?_
                          obtain ⟨x102, ex102, hf⟩ := z_bs hf
                          refine va_sld hx hb hX hbl hbA hI.2 (sX_s ex102).1 d_Law_law_520 ?_
                          refine z_topi (sX_s ex102).2 ?_
                          obtain ⟨u103, eu103, hf⟩ := z_bs hf
                          obtain ⟨r104, er104, hf⟩ := z_bs hf
                          refine z_callV (As := [.int x100, .int x101, .int x102]) (rest := []) (r := (some (.int r104.1))) (h' := r104.2) X hI eu103 (s_Mod_match er104) rfl rfl wm_Law_98 yi_Mod_match rfl hl.1 rfl (Nat.le_of_ble_eq_true rfl) (by decide) (by show _ ≤ 601024 ∧ _ ≤ 7293034; omega) d_Law_law_521 (fun H locs hI => ?_)
                          refine W.eq (g2 := F0 m 524 ls [.int (r104.1)]) rfl ?_
                          obtain ⟨x105, ex105, hf⟩ := z_bs hf
                          refine z_topi (Option.some.inj ex105) ?_
                          refine lv_istore (lv' := [(6, .int x105), (5, .int x99), (0, .ref b), (1, .ref v1), (2, .ref v2), (3, .ref v3), (4, .int v4)]) hx hb d_Law_law_524 hl (by decide) rfl (fun ls hl => ?_)
                          refine lv_goto (tgt := 557) hx hb d_Law_law_526 (by decide) ?_
                          obtain ⟨x106, ex106, hf⟩ := z_bs hf
                          refine lv_iinc (v := x106) (lv' := [(4, .int x106), (6, .int x105), (5, .int x99), (0, .ref b), (1, .ref v1), (2, .ref v2), (3, .ref v3)]) hx hb d_Law_law_557 hl (k := 6) rfl (by rw [← Option.some.inj ex106]; rfl) (by decide) rfl (fun ls hl => ?_)
                          refine lv_goto (tgt := 23) hx hb d_Law_law_560 (by decide) ?_
                          exact ih v1 v2 v3 x106 r104.2 _ _ _ _ _ hI (lv_sub hl [3, 4, 5, 6, 0] rfl) (by omega) hf
                        · rw [if_neg c94] at hf
                          by_cases c107 : (x2 &&& 15) = 10
                          · rw [if_pos c107] at hf
                            refine lv_tableIn (off := 490) (tgt := 529) hx hb d_Law_law_39 (by rw [c107]; decide) (by rw [c107]; decide) (by rw [c107]; rfl) (by decide) ?_
                            refine lv_aload_n hx hb d_Law_law_529 rfl (lv_at hl 1 rfl) ?_
                            refine lv_aload_n hx hb d_Law_law_530 rfl (lv_at hl 0 rfl) ?_
                            refine lv_iload hx hb d_Law_law_531 (lv_at hl 4 rfl) ?_
                            refine lv_iconst (v := 1) hx hb d_Law_law_533 (by decide) ?_
                            refine lv_iadd hx hb d_Law_law_534 ?_
                            obtain ⟨x108, ex108, hf⟩ := z_bs hf
                            refine va_sld hx hb hX hbl hbA hI.2 (sX_s ex108).1 d_Law_law_535 ?_
                            refine z_topi (sX_s ex108).2 ?_
                            refine lv_aload_n hx hb d_Law_law_536 rfl (lv_at hl 3 rfl) ?_
                            obtain ⟨r109, er109, hf⟩ := z_bs hf
                            refine zw_callS (As := [.ref v1, .int x108, .ref v3]) (rest := []) (r := (some (.int r109.1))) (h' := r109.2) X hSt hI (s_Law_count hlt er109) wm_Law_99 yi_Law_count rfl hl.1 rfl (Nat.le_of_ble_eq_true rfl) (by decide) (by show _ ≤ 601024 ∧ _ ≤ 7293034; omega) d_Law_law_537 (fun H locs hI => ?_)
                            refine W.eq (g2 := F0 m 540 ls [.int (r109.1)]) rfl ?_
                            obtain ⟨x110, ex110, hf⟩ := z_bs hf
                            refine z_topi (Option.some.inj ex110) ?_
                            refine lv_istore (lv' := [(5, .int x110), (0, .ref b), (1, .ref v1), (2, .ref v2), (3, .ref v3), (4, .int v4)]) hx hb d_Law_law_540 hl (by decide) rfl (fun ls hl => ?_)
                            refine lv_aload_n hx hb d_Law_law_542 rfl (lv_at hl 3 rfl) ?_
                            refine lv_aload_n hx hb d_Law_law_543 rfl (lv_at hl 1 rfl) ?_
                            refine lv_iload hx hb d_Law_law_544 (lv_at hl 5 rfl) ?_
                            refine lv_iconst (v := 1) hx hb d_Law_law_546 (by decide) ?_
                            refine lv_iadd hx hb d_Law_law_547 ?_
                            obtain ⟨x111, ex111, hf⟩ := z_bs hf
                            refine va_sld hx hb hX hbl hbA hI.2 (sX_s ex111).1 d_Law_law_548 ?_
                            refine z_topi (sX_s ex111).2 ?_
                            obtain ⟨u112, eu112, hf⟩ := z_bs hf
                            obtain ⟨r113, er113, hf⟩ := z_bs hf
                            refine z_callV (As := [.int x111]) (rest := []) (r := (some (.int r113.1))) (h' := r113.2) X hI eu112 (s_Mod_count er113) rfl rfl wm_Law_101 yi_Mod_count rfl hl.1 rfl (Nat.le_of_ble_eq_true rfl) (by decide) (by show _ ≤ 601024 ∧ _ ≤ 7293034; omega) d_Law_law_549 (fun H locs hI => ?_)
                            refine W.eq (g2 := F0 m 552 ls [.int (r113.1)]) rfl ?_
                            obtain ⟨x114, ex114, hf⟩ := z_bs hf
                            refine z_topi (Option.some.inj ex114) ?_
                            refine lv_istore (lv' := [(6, .int x114), (5, .int x110), (0, .ref b), (1, .ref v1), (2, .ref v2), (3, .ref v3), (4, .int v4)]) hx hb d_Law_law_552 hl (by decide) rfl (fun ls hl => ?_)
                            refine lv_goto (tgt := 557) hx hb d_Law_law_554 (by decide) ?_
                            obtain ⟨x115, ex115, hf⟩ := z_bs hf
                            refine lv_iinc (v := x115) (lv' := [(4, .int x115), (6, .int x114), (5, .int x110), (0, .ref b), (1, .ref v1), (2, .ref v2), (3, .ref v3)]) hx hb d_Law_law_557 hl (k := 6) rfl (by rw [← Option.some.inj ex115]; rfl) (by decide) rfl (fun ls hl => ?_)
                            refine lv_goto (tgt := 23) hx hb d_Law_law_560 (by decide) ?_
                            exact ih v1 v2 v3 x115 r113.2 _ _ _ _ _ hI (lv_sub hl [3, 4, 5, 6, 0] rfl) (by omega) hf
                          · rw [if_neg c107] at hf
                            refine z_tabD (ks := [0, 1, 2, 3, 4, 5, 6, 7, 8, 9, 10]) (tgt := 557) hx hb d_Law_law_39 (by decide) (by decide) (by simp only [List.forall_mem_cons, List.not_mem_nil, false_implies, implies_true, and_true]; exact ⟨z_ne c3 (by decide), z_ne c14 (by decide), z_ne c23 (by decide), z_ne c30 (by decide), z_ne c36 (by decide), z_ne c51 (by decide), z_ne c62 (by decide), z_ne c69 (by decide), z_ne c78 (by decide), z_ne c94 (by decide), z_ne c107 (by decide)⟩) (by decide) ?_
                            obtain ⟨x116, ex116, hf⟩ := z_bs hf
                            refine lv_iinc (v := x116) (lv' := [(4, .int x116), (0, .ref b), (1, .ref v1), (2, .ref v2), (3, .ref v3)]) hx hb d_Law_law_557 hl (k := 4) rfl (by rw [← Option.some.inj ex116]; rfl) (by decide) rfl (fun ls hl => ?_)
                            refine lv_goto (tgt := 23) hx hb d_Law_law_560 (by decide) ?_
                            exact ih v1 v2 v3 x116 h _ _ _ _ _ hI (lv_sub hl [1, 2, 3, 4, 0] rfl) (by omega) hf
end
