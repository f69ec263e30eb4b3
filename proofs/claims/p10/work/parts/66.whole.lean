/-! the law from its entry -/
theorem ws_cl (s : State) : ∀ cl : List vw_C, (∀ q ∈ cl, ∃ (cC : ClassId) (iS : Nat → Nat), u_Kn s q.1 q.2.1 q.2.2 cC iS) → ∃ D : va_G, ∀ (c : Nat) (q : vw_C), cl[c]? = some q → u_Kn s q.1 q.2.1 q.2.2 (D.1 c) (D.2 c) := by
  intro cl
  induction cl with
  | nil => intro _; exact ⟨(fun _ => 0, fun _ _ => 0), fun c q h => by simp at h⟩
  | cons a cl ih =>
    intro h
    obtain ⟨D, hD⟩ := ih (fun q hq => h q (List.mem_cons_of_mem _ hq))
    obtain ⟨cC, iS, hK⟩ := h a List.mem_cons_self
    refine ⟨((fun | 0 => cC | n + 1 => D.1 n), (fun | 0 => iS | n + 1 => D.2 n)), fun c q hq => ?_⟩
    cases c with
    | zero => cases hq; exact hK
    | succ c => exact hD c q hq
theorem ws_ty (s : State) : ∀ ts : List FieldType, (∀ t ∈ ts, ∃ cA : ClassId, ArrOfT s cA t ∧ va_RA s cA t) → ∃ dA : Nat → ClassId, ∀ (k : Nat) (t : FieldType), ts[k]? = some t → ArrOfT s (dA k) t ∧ va_RA s (dA k) t := by
  intro ts
  induction ts with
  | nil => intro _; exact ⟨fun _ => 0, fun c q h => by simp at h⟩
  | cons a ts ih =>
    intro h
    obtain ⟨D, hD⟩ := ih (fun q hq => h q (List.mem_cons_of_mem _ hq))
    obtain ⟨cA, hK⟩ := h a List.mem_cons_self
    refine ⟨(fun | 0 => cA | n + 1 => D n), fun c q hq => ?_⟩
    cases c with
    | zero => cases hq; exact hK
    | succ c => exact hD c q hq
theorem ws_arr {s : State} {a : Array Value} {t : FieldType} (hob : ∀ C, t ≠ .object C) (h : (Cond.arrayClass t).before a s = true) : ∃ cA : ClassId, ArrOfT s cA t ∧ va_RA s cA t := by
  obtain ⟨cA, kA, comp, h1, h2, h3⟩ := Cond.arrayClass_spec h
  refine ⟨cA, fun n z => ⟨(fun k h => by cases h), kA, h2, comp, h3⟩, ?_⟩
  unfold va_RA
  split
  · next C => exact absurd rfl (hob C)
  · exact h1
theorem ws_over {s : State} {a : Array Value} {C : String} (h : (Cond.arrayOver (.object C)).before a s = true) : ∃ cA : ClassId, ArrOfT s cA (.object C) ∧ va_RA s cA (.object C) := by
  obtain ⟨comp, cA, kA, h1, -, h3, h4, h5⟩ := Cond.arrayOver_spec h
  exact ⟨cA, fun n z => ⟨(fun k h => by cases h), kA, h3, comp, h4⟩, kA, comp, h3, h4, h1, h5⟩
theorem ws_F {s : State} {a : Array Value} (hts : ∀ w ∈ lw_tbl, w.before a s = true) : zn_F s := by
  have hm : ∀ q ∈ z_nest, Cond.methodLinkNest q.1 q.2.1 q.2.2.1 q.2.2.2 ∈ lw_tbl := by decide +kernel
  exact ⟨fun q hq => va_Nw.of rfl (hts _ (hm q hq)), va_AO.of (hts (.arrayOver (.object "StreamForge$Row")) (by decide +kernel)), va_AO.of (hts (.arrayOver (.object "StreamForge$Command")) (by decide +kernel))⟩
theorem ws_K {s : State} {a : Array Value} (hts : ∀ w ∈ lw_tbl, w.before a s = true) : ∃ (D : va_G) (dA : Nat → ClassId), va_K D zcl (z_ty dA) s := by
  have z : ∀ w ∈ zT, w.before a s = true := fun w h => hts w (z_zin h)
  obtain ⟨D, hD⟩ := ws_cl s zcl (by
    simp only [zcl, List.forall_mem_cons, List.not_mem_nil, false_implies, implies_true, and_true]
    exact ⟨u_known z i_Addr (z _ wn_Addr), u_known z i_Cmd (z _ wn_Cmd), u_known z i_Cur (z _ wn_Cur), u_known z i_Ed (z _ wn_Ed), u_known z i_It (z _ wn_It), u_known z i_Ma (z _ wn_Ma), u_known z i_Pa (z _ wn_Pa), u_known z i_Pt (z _ wn_Pt), u_known z i_Pr (z _ wn_Pr), u_known z i_Prog (z _ wn_Prog), u_known z i_Row (z _ wn_Row), u_known z i_SF (z _ wn_SF), u_known z i_Mod (z _ wn_Mod)⟩)
  obtain ⟨dA, hA⟩ := ws_ty s [.int, .char, .long, .boolean, .object "StreamForge$Row", .object "StreamForge$Command"] (by
    simp only [List.forall_mem_cons, List.not_mem_nil, false_implies, implies_true, and_true]
    exact ⟨ws_arr (fun C h => by cases h) (z _ wa_0), ws_arr (fun C h => by cases h) (z _ wa_1), ws_arr (fun C h => by cases h) (z _ wa_2), ws_arr (fun C h => by cases h) (z _ wa_3), ws_over (hts (.arrayOver (.object "StreamForge$Row")) (by decide +kernel)), ws_over (hts (.arrayOver (.object "StreamForge$Command")) (by decide +kernel))⟩)
  refine ⟨D, dA, hD, fun k q hk => ?_⟩
  match k, hk with
  | 0, hk => cases hk; exact hA 0 _ rfl
  | 1, hk => cases hk; exact hA 1 _ rfl
  | 2, hk => cases hk; exact hA 2 _ rfl
  | 3, hk => cases hk; exact hA 3 _ rfl
  | 4, hk => cases hk; exact hA 4 _ rfl
  | 5, hk => cases hk; exact hA 5 _ rfl
  | _ + 6, hk => simp [z_ty] at hk
theorem ws_mv {D : va_G} {dA : Nat → ClassId} {B : Nat} {h1 h2 : z_H} {H0 H : Heap} {locs : List Loc} (e : h1 = h2) (hI : z_I D dA B h1 H0 H locs) : z_I D dA B h2 H0 H locs := e ▸ hI
theorem c_h0 {B : Nat} {g : Nat → c_C} : c_h B 0 g = fun _ => none := funext fun a => if_neg (by omega)
def c_G1 : Nat → c_C := c_s c_g0 0 (.inl (11, [.inr none, .inr none, .inr none, .inr none, .inr none, .inl 0, .inr none, .inr none, .inl 0, .inl 0]))
def c_G3 : Nat → c_C := c_s (r_SF 0 c_G1) 552 (.inl (12, [.inr none, .inr none, .inr none, .inl 0, .inl 0, .inl 0, .inl 0, .inl 0, .inl 0, .inr none, .inr none, .inr none, .inr none, .inr none, .inr none, .inr none, .inr none, .inr none, .inr none, .inr none, .inr none, .inr none, .inr none, .inr none, .inr none, .inr none, .inr none, .inr none, .inr none, .inr none, .inr none, .inr none, .inr none, .inr none, .inr none, .inr none, .inr none, .inr none, .inr none, .inr none, .inr none, .inl 0, .inl 0, .inl 0, .inl 0, .inl 0, .inl 0, .inl 0, .inl 0, .inl 0, .inl 0, .inr none, .inr none, .inr none, .inl 0, .inl 0, .inl 0, .inl 0, .inr none, .inr none, .inr none, .inr none, .inr none, .inr none, .inr none, .inl 0, .inl 0, .inl 0, .inl 0, .inl 0, .inl 0, .inl 0, .inl 0, .inl 0, .inl 0, .inl 0, .inl 0]))
theorem c_G1_at : c_G1 0 = .inl (11, [.inr none, .inr none, .inr none, .inr none, .inr none, .inl 0, .inr none, .inr none, .inl 0, .inl 0]) := by unfold c_G1 c_s; exact if_pos rfl
theorem c_G3_at : c_G3 552 = .inl (12, [.inr none, .inr none, .inr none, .inl 0, .inl 0, .inl 0, .inl 0, .inl 0, .inl 0, .inr none, .inr none, .inr none, .inr none, .inr none, .inr none, .inr none, .inr none, .inr none, .inr none, .inr none, .inr none, .inr none, .inr none, .inr none, .inr none, .inr none, .inr none, .inr none, .inr none, .inr none, .inr none, .inr none, .inr none, .inr none, .inr none, .inr none, .inr none, .inr none, .inr none, .inr none, .inr none, .inl 0, .inl 0, .inl 0, .inl 0, .inl 0, .inl 0, .inl 0, .inl 0, .inl 0, .inl 0, .inr none, .inr none, .inr none, .inl 0, .inl 0, .inl 0, .inl 0, .inr none, .inr none, .inr none, .inr none, .inr none, .inr none, .inr none, .inl 0, .inl 0, .inl 0, .inl 0, .inl 0, .inl 0, .inl 0, .inl 0, .inl 0, .inl 0, .inl 0, .inl 0]) := by unfold c_G3 c_s; exact if_pos rfl
theorem ws_e1 (B : Nat) : z_up (c_h B 0 c_g0) B (.inr (11, [.null, .null, .null, .null, .null, .int 0, .null, .null, .int 0, .int 0])) = c_h B (0 + 1) c_G1 := c_new (c := .inl (11, [.inr none, .inr none, .inr none, .inr none, .inr none, .inl 0, .inr none, .inr none, .inl 0, .inl 0])) rfl rfl
theorem ws_e2 (B : Nat) : z_up (c_h B (0 + 552) (r_SF 0 c_G1)) (B + 552) (.inr (12, [.null, .null, .null, .int 0, .int 0, .int 0, .int 0, .int 0, .int 0, .null, .null, .null, .null, .null, .null, .null, .null, .null, .null, .null, .null, .null, .null, .null, .null, .null, .null, .null, .null, .null, .null, .null, .null, .null, .null, .null, .null, .null, .null, .null, .null, .int 0, .int 0, .int 0, .int 0, .int 0, .int 0, .int 0, .int 0, .int 0, .int 0, .null, .null, .null, .int 0, .int 0, .int 0, .int 0, .null, .null, .null, .null, .null, .null, .null, .int 0, .int 0, .int 0, .int 0, .int 0, .int 0, .int 0, .int 0, .int 0, .int 0, .int 0, .int 0])) = c_h B (552 + 1) c_G3 := c_new (c := .inl (12, [.inr none, .inr none, .inr none, .inl 0, .inl 0, .inl 0, .inl 0, .inl 0, .inl 0, .inr none, .inr none, .inr none, .inr none, .inr none, .inr none, .inr none, .inr none, .inr none, .inr none, .inr none, .inr none, .inr none, .inr none, .inr none, .inr none, .inr none, .inr none, .inr none, .inr none, .inr none, .inr none, .inr none, .inr none, .inr none, .inr none, .inr none, .inr none, .inr none, .inr none, .inr none, .inr none, .inl 0, .inl 0, .inl 0, .inl 0, .inl 0, .inl 0, .inl 0, .inl 0, .inl 0, .inl 0, .inr none, .inr none, .inr none, .inl 0, .inl 0, .inl 0, .inl 0, .inr none, .inr none, .inr none, .inr none, .inr none, .inr none, .inr none, .inl 0, .inl 0, .inl 0, .inl 0, .inl 0, .inl 0, .inl 0, .inl 0, .inl 0, .inl 0, .inl 0, .inl 0])) rfl rfl
theorem ws_e3 (B : Nat) : z_up (c_h B (552 + 46) (r_Mod 552 c_G3)) (B + 598) (.inl (2, 1, .inr (.inl fun _ => 0))) = c_h B 599 c_F := c_new (c := .inr (2, 1, 1, c_0)) rfl rfl
theorem ws_i1 (B : Nat) : f_SF_init 100000 B (c_h B (0 + 1) c_G1) (B + 1) = some (c_h B (0 + 552) (r_SF 0 c_G1)) := k_SF_a (i := 0) c_G1_at rfl rfl
theorem ws_i2 (B : Nat) : f_Mod_init 100000 (B + 552) (c_h B (552 + 1) c_G3) (B + 553) = some (c_h B (552 + 46) (r_Mod 552 c_G3)) := k_Mod_a (i := 552) c_G3_at rfl rfl
theorem ws_loop {B L : Nat} {xs : Nat → Int32} (hL : L ≤ 2560) : f_law_23 100000 L xs 513 B (B + 552) (B + 598) 0 (c_h B 599 c_F) = some 1 := by
  have e0 : Int32.ofNat (5 * 0) = 0 := by decide
  have q := q_loop (L := c_L B (c_h B 599 c_F)) (sf := B) (mo := B + 552) (ou := B + 598) (N := 100000) (X := L) (xs := xs) (Nat.le_refl _) c_12 c_1200 (Nat.le_refl _) (by omega) c_yL hL 513 0 (c_h B 599 c_F) (Nat.zero_le _) (by omega) ⟨c_start rfl, c_K8 rfl, c_K4 rfl⟩
  rw [e0] at q
  exact q
set_option maxRecDepth 20000 in
set_option maxHeartbeats 2000000 in
theorem ws_3 {p : Program} {l : Launch} {e : Env} {s : State} {m : MethodId} {below : List Frame} {meth : Method} {c : Code} {D : va_G} {dA : Nat → ClassId} {B : Nat} (hlt : l.stackTraces = false) {b L : Nat} {xs : Nat → Int32} (hL : L ≤ 2560) (hSt : z_St B s s.heap) (hX : va_X b L xs s s.heap) (hbl : b < s.heap.size) (hB : s.heap.size = B) (hF : zn_F s) (X : z_X p s m #[Value.ref b] meth c code 7 ret lw_tbl "StreamForgeLaw" D dA B) {H : Heap} {locs : List Loc} {ls : Array Slot} (hI : z_I D dA B (c_h B (552 + 46) (r_Mod 552 c_G3)) s.heap H locs) (hn : H.size = B + 598) (hl : lv_has ls 7 [(2, .ref (B + 552)), (1, .ref B), (0, .ref b)]) : W p l e room_1 s m #[Value.ref b] below meth c H locs 598 20000 (lw_Z below #[Value.ref b] s) (F0 m 16 ls []) := by
  have hx := z_hx X
  have hb := z_hb X
  refine lv_iconst (v := 1) hx hb d_Law_law_16 (by decide) ?_
  refine z_newa (n := B + 598) (t := 2) (N := 1) (a0 := (1, .inr (.inl fun _ => 0))) (ty := .long) X hI hn rfl rfl (fun C h9 => by cases h9) wa_2 (fun _ => rfl) (by decide) (by decide) (by decide) (by decide) d_Law_law_17 (fun H hI hn => ?_)
  have hI : z_I D dA B (c_h B 599 c_F) s.heap H locs := ws_mv (ws_e3 B) hI
  refine lv_astore_n hx hb d_Law_law_19 rfl hl (by decide) rfl (fun ls hl => ?_)
  refine lv_iconst (v := 0) hx hb d_Law_law_20 (by decide) ?_
  refine lv_istore hx hb d_Law_law_21 hl (by decide) rfl (fun ls hl => ?_)
  have hl : lv_has ls 7 [(0, .ref b), (1, .ref B), (2, .ref (B + 552)), (3, .ref (B + 598)), (4, .int 0)] := lv_sub hl [4, 3, 2, 1, 0] rfl
  have hbA : ¬ (fun q => B ≤ q) b := fun h => absurd hbl (by have h2 : B ≤ b := h; omega)
  exact s_law_23 (N := 100000) hlt hSt hX hbl hbA hB.symm X 513 B (B + 552) (B + 598) 0 (c_h B 599 c_F) H locs ls (598 + 1) (20000 + 1) hI hl (by decide) (ws_loop hL)
set_option maxRecDepth 20000 in
set_option maxHeartbeats 2000000 in
theorem ws_2 {p : Program} {l : Launch} {e : Env} {s : State} {m : MethodId} {below : List Frame} {meth : Method} {c : Code} {D : va_G} {dA : Nat → ClassId} {B : Nat} (hlt : l.stackTraces = false) {b L : Nat} {xs : Nat → Int32} (hL : L ≤ 2560) (hSt : z_St B s s.heap) (hX : va_X b L xs s s.heap) (hbl : b < s.heap.size) (hB : s.heap.size = B) (hF : zn_F s) (X : z_X p s m #[Value.ref b] meth c code 7 ret lw_tbl "StreamForgeLaw" D dA B) {H : Heap} {locs : List Loc} {ls : Array Slot} (hI : z_I D dA B (c_h B (0 + 552) (r_SF 0 c_G1)) s.heap H locs) (hn : H.size = B + 552) (hl : lv_has ls 7 [(1, .ref B), (0, .ref b)]) : W p l e room_1 s m #[Value.ref b] below meth c H locs 552 8000 (lw_Z below #[Value.ref b] s) (F0 m 8 ls []) := by
  have hx := z_hx X
  have hb := z_hb X
  refine z_new (n := B + 552) (ci := 12) (fs := [.null, .null, .null, .int 0, .int 0, .int 0, .int 0, .int 0, .int 0, .null, .null, .null, .null, .null, .null, .null, .null, .null, .null, .null, .null, .null, .null, .null, .null, .null, .null, .null, .null, .null, .null, .null, .null, .null, .null, .null, .null, .null, .null, .null, .null, .int 0, .int 0, .int 0, .int 0, .int 0, .int 0, .int 0, .int 0, .int 0, .int 0, .null, .null, .null, .int 0, .int 0, .int 0, .int 0, .null, .null, .null, .null, .null, .null, .null, .int 0, .int 0, .int 0, .int 0, .int 0, .int 0, .int 0, .int 0, .int 0, .int 0, .int 0, .int 0]) (ty0 := t_Mod) X hI hn i_Mod t_Mod_ok rfl wk_Law_53 wn_Mod wz_Mod (by decide +kernel) (by decide) d_Law_law_8 (fun H hI hn => ?_)
  have hI : z_I D dA B (c_h B (552 + 1) c_G3) s.heap H locs := ws_mv (ws_e2 B) hI
  have hn : H.size = B + 553 := hn
  refine lv_dup hx hb d_Law_law_11 rfl ?_
  refine zn_callI (n := B + 553) (mc := 45) (ms := 7759) (As := []) (rest := [.ref (B + 552)]) X hF hI hn (s_Mod_init (ws_i2 B)) wm_Law_55 yn_Mod_init rfl hl.1 rfl (Nat.le_of_ble_eq_true rfl) (by decide) (by decide) d_Law_law_12 (fun H locs hI hn => ?_)
  have hn : H.size = B + 598 := hn
  refine lv_astore_n hx hb d_Law_law_15 rfl hl (by decide) rfl (fun ls hl => ?_)
  refine W.widen (k := 598) (n := 20000) (by decide) (by decide) ?_
  exact ws_3 hlt hL hSt hX hbl hB hF X hI hn hl
set_option maxRecDepth 20000 in
set_option maxHeartbeats 2000000 in
theorem ws_1 {p : Program} {l : Launch} {e : Env} {s : State} {m : MethodId} {below : List Frame} {meth : Method} {c : Code} {D : va_G} {dA : Nat → ClassId} {B : Nat} (hlt : l.stackTraces = false) {b L : Nat} {xs : Nat → Int32} (hL : L ≤ 2560) (hSt : z_St B s s.heap) (hX : va_X b L xs s s.heap) (hbl : b < s.heap.size) (hB : s.heap.size = B) (hF : zn_F s) (X : z_X p s m #[Value.ref b] meth c code 7 ret lw_tbl "StreamForgeLaw" D dA B) {ls : Array Slot} (hI : z_I D dA B (c_h B 0 c_g0) s.heap s.heap []) (hl : lv_has ls 7 [(0, .ref b)]) : W p l e room_1 s m #[Value.ref b] below meth c s.heap [] 0 0 (lw_Z below #[Value.ref b] s) (F0 m 0 ls []) := by
  have hx := z_hx X
  have hb := z_hb X
  refine z_new (n := B) (ci := 11) (fs := [.null, .null, .null, .null, .null, .int 0, .null, .null, .int 0, .int 0]) (ty0 := t_SF) X hI hB i_SF t_SF_ok rfl wk_Law_8 wn_SF wz_SF (by decide +kernel) (by decide) d_Law_law_0 (fun H hI hn => ?_)
  have hI : z_I D dA B (c_h B (0 + 1) c_G1) s.heap H [] := ws_mv (ws_e1 B) hI
  refine lv_dup hx hb d_Law_law_3 rfl ?_
  refine zn_callI (n := B + 1) (mc := 551) (ms := 7612) (As := []) (rest := [.ref B]) X hF hI hn (s_SF_init (ws_i1 B)) wm_Law_52 yn_SF_init rfl hl.1 rfl (Nat.le_of_ble_eq_true rfl) (by decide) (by decide) d_Law_law_4 (fun H locs hI hn => ?_)
  have hn : H.size = B + 552 := hn
  refine lv_astore_n hx hb d_Law_law_7 rfl hl (by decide) rfl (fun ls hl => ?_)
  refine W.widen (k := 552) (n := 8000) (by decide) (by decide) ?_
  exact ws_2 hlt hL hSt hX hbl hB hF X hI hn hl
theorem whole_start {p : Program} {e : Env} {s : State} {m : MethodId} {below : List Frame} {meth : Method} {c : Code} (l : Launch) (hlt : l.stackTraces = false) {b L : Nat} {xs : Nat → Int32} (hL : L ≤ 2560) (C0 : lw_At p s m meth c b L xs) : W p l e room_1 s m #[Value.ref b] below meth c s.heap [] 0 0 (lw_Z below #[Value.ref b] s) (entryFrame m ([Value.ref b] : List Value).toArray 7) := by
  obtain ⟨hx, hb, hr, hml, hown, hts, hX, hbl, hlocks, hgv⟩ := C0
  obtain ⟨D, dA, hK⟩ := ws_K hts
  have hF := ws_F hts
  have hSt := z_St_start hts hgv
  have X : z_X p s m #[Value.ref b] meth c code 7 ret lw_tbl "StreamForgeLaw" D dA s.heap.size := ⟨⟨hx, hb, hml, hown, hts⟩, fun w h => z_zin h, hK, Nat.le_refl _, hlocks, hr⟩
  have hI : z_I D dA s.heap.size (c_h s.heap.size 0 c_g0) s.heap s.heap [] := ⟨⟨[], fun k q h => by simp [z_wl, va_pl] at h, ⟨fun i j p q h => by simp [z_wl, va_pl] at h, fun k q h => by simp [z_wl, va_pl] at h⟩, fun a h => by rw [c_h0] at h; cases h⟩, va_S.rf⟩
  have hl := lv_entry [Value.ref b] (n := 7) (Nat.le_of_ble_eq_true rfl)
  rw [lg_entry_eq]
  exact ws_1 hlt hL hSt hX hbl rfl hF X hI hl
set_option maxHeartbeats 4000000 in
theorem lw_walk (l : Launch) (hlt : l.stackTraces = false) (b : Addr) (xs : List Int32) : MetFree l x (headSpec (Jvm.Cond.code x code maxLocals ret :: tables_1) room_1) (lw_P b xs) (fun _ _ _ _ _ => True) lw_Q := by
  refine MetFree.of_bodyS (code := code) (maxLocals := maxLocals) (ret := ret) (by decide) ?_ ?_
  · intro args s m h hn
    obtain ⟨meth, c, h1, h2, h3, h4, h5, h6, -, -⟩ := Cond.code_spec hn (atoms_spec (ws := Jvm.Cond.code x code maxLocals ret :: tables_1) h _ List.mem_cons_self)
    exact ⟨meth, c, h1, h2, h3, h4, h5, h6⟩
  · intro p e s m args below meth c s₁ B hml0 hP _
    obtain ⟨rfl, hx, hbd, hgv⟩ := hP
    obtain ⟨scr, harrAt, hlist, hof, hsmall⟩ := hx
    obtain ⟨hcb, hkn, -, -⟩ := State.arrayAt?_spec harrAt
    have hown : s.vm.findClass R_law = some m.cls := findClass_of_methodNamed B.named
    have hts0 : ∀ c ∈ (Jvm.Cond.code x code maxLocals ret :: tables_1), c.before #[Value.ref b] s = true := atoms_spec (ws := Jvm.Cond.code x code maxLocals ret :: tables_1) B.pre
    have hts : ∀ w ∈ lw_tbl, w.before #[Value.ref b] s = true := k2_hts_sels lw_privs (fun w hw => hts0 w (List.mem_cons_of_mem _ hw)) lw_privs_ok
    have hml : c.maxLocals = 7 := B.maxLocals_eq (hts0 _ List.mem_cons_self)
    have X₀ : Stand p l e room_1 s m #[Value.ref b] below meth c s₁ [] 0 0 := Stand.of_body B
    have hh0 : s₁.heap = s.heap := by rw [B.state]; rfl
    have hsz : scr.slots.size = xs.length := by rw [← Array.length_toList, hlist, List.length_map]
    have hval : ∀ j : Nat, j < xs.length → scr.slots[j]? = some (.int (xs.getD j 0)) := fun j hj => by
      rw [← Array.getElem?_toList, hlist]
      simp [hj]
    have hbl : b < s.heap.size := (Array.getElem?_eq_some_iff.mp hcb).1
    have hX : va_X b xs.length (fun j => xs.getD j 0) s s.heap := ⟨scr, hcb, hof, hkn, hsz, hval⟩
    have K : W p l e room_1 s m #[Value.ref b] below meth c s₁.heap [] 0 0 (lw_Z below #[Value.ref b] s) (entryFrame m ([Value.ref b] : List Value).toArray 7) := by
      rw [hh0]
      exact whole_start l hlt hbd ⟨B.exec, B.bytes, B.returns, hml, hown, hts, hX, hbl, B.notSynchronized, hgv⟩
    obtain ⟨t, a1, o, b1, b2, b3⟩ := K s₁ rfl X₀
    exact ⟨t, o, a1, b1, b2, b3⟩
theorem lw_pre_spec {args : Array Value} {s : State} (h : (Jvm.Cond.and given_1 narrow_1).before args s = true) (hr : rest_1_c.before args s = true) : ∃ (b : Addr) (xs : List Int32), lw_P b xs args s := by
  have hs := flat_of_before _ h
  have hq := flat_of_before _ hr
  have hc : (Cond.count 1).before args s = true := hs _ (by decide +kernel)
  have harr : (Cond.arrayOf (.arg 0) .int).before args s = true := hs _ (by decide +kernel)
  have hle : (Cond.le (.length (.arg 0)) (.int 2560)).before args s = true := hs _ (by decide +kernel)
  have hlen : (Cond.isInt (.length (.arg 0))).before args s = true := hq _ (by decide +kernel)
  have hall : (Cond.all (.arg 0) (.isInt (.elem (.arg 0) (.index 0)))).before args s = true := hq _ (by decide +kernel)
  obtain ⟨b, xs, hb, hx⟩ := State.ints_of_pre rfl harr hlen hall
  have hsm : xs.length < 2 ^ 31 := hx.choose_spec.2.2.2
  have hev : (Term.length (.arg 0)).eval args s none [] s = some (.int xs.length.toInt32) := hx.length_eval hb
  have hv := Cond.le_ints hev (show (Term.int 2560).eval args s none [] s = some (.int 2560) from rfl)
  have hd : xs.length.toInt32 ≤ 2560 := by
    simpa [Cond.before, Cond.holds, hv] using hle
  have hN : xs.length ≤ 2560 := (Int32.ofNat_le_ofNat hsm (by decide)).mp (show Int32.ofNat xs.length ≤ Int32.ofNat 2560 from hd)
  exact ⟨b, xs, Cond.one_arg hc (show args[0]? = some (.ref b) from hb), hx, hN, h⟩
theorem lw_comes (l : Launch) (hlt : l.stackTraces = false) : Comes l x (Jvm.Cond.code x code maxLocals ret :: tables_1) room_1 (fun tb e args s => Calls_1 tb e args s ∧ rest_1 tb e args s ∧ Pre_1 tb e args s)
    (fun _ _ args s o t => lw_Q args s o t) := by
  intro p e ha hc hk s m args below hf hfit hheap happ hpre
  obtain ⟨b, xs, hP⟩ := lw_pre_spec hpre.2.2 hpre.2.1
  obtain ⟨k, o, h1, h2, h3, hQ⟩ := lw_walk l hlt b xs p e ha hc hk s m args below hf ((Spec.applies_iff_loose hf).mp happ).1 hP trivial
  exact ⟨k, o, h1, h2, h3, hQ⟩
theorem lw_frame {s t : State} {o : Outcome} {args : Array Value} (h : Framed s o t [] 601024 7293034) :
    Framed s o t (fieldLocs frame_1_writes args s ++ arrayLocs frame_1_arrays args s ++ staticLocs frame_1_statics s) 601024 7293034 := h
theorem lw_limb (L : Cond) (hL : ∀ (args : Array Value) (s t : State), L.after args s (.returned (some (.int 1))) t = true) :
    ArmFor flags0 classFile x code maxLocals ret World_1 tables_1 room_1 Calls_1 rest_1 Pre_1
      (fun tb e a s o t => postC L tb e a s o t ∧ Framed s o t (fieldLocs frame_1_writes a s ++ arrayLocs frame_1_arrays a s ++ staticLocs frame_1_statics s) 601024 7293034) := by
  intro l hfl _ _ p e ha hc hk s m args below hf hfit hheap happ hpre
  obtain ⟨k, o, h1, h2, h3, rfl, hF⟩ := lw_comes l (by unfold Launch.stackTraces; rw [hfl]; decide +kernel) p e ha hc hk s m args below hf hfit hheap happ hpre
  exact ⟨k, _, h1, h2, h3, hL args s _, lw_frame hF⟩
theorem i_vc : Claimed_1_1 ∧ Claimed_1_2 := ⟨lw_limb limb_1_1 (fun args s t => by simp [limb_1_1, Cond.after, Cond.holds, Cond.value]), lw_limb limb_1_2 (fun args s t => Cond.after_iff.mpr (by
  first | (rw [show limb_1_2 = Cond.eq .result (.int 1) from rfl, Cond.eq_ints (x := 1) (y := 1) rfl rfl]; simp; done) | (simp [limb_1_2, Cond.value, Term.eval]; done)))⟩
