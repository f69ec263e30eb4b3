section ZB1
variable {p : Program} {l : Launch} {e : Env} {R : Room} {s : State} {m : MethodId} {args : Array Value} {below : List Frame} {meth : Method} {c : Code} {H : Heap} {locs : List Loc} {cells slots : Nat} {Q : State → Prop}
variable {cc cy : ByteArray} {pc nL ny index n fr lo len : Nat} {ret ry : Option FieldType} {ls : Array Slot} {rest st0 : List Value} {Ts : List Cond} {own : String} {D : va_G} {dA : Nat → ClassId} {B b : Nat} {h h' : z_H} {y : MethodName} {As av : List Value} {r : Option Value ⊕ String}
/-- the state behind a callee: the caller's frames, the callee's heap and tables -/
abbrev zx_to (U s₂ : State) : State := ({ U with heap := s₂.heap, slotsUsed := s₂.slotsUsed } : State).setVm s₂.vm
theorem zx_stand {U s₂ : State} {L : List Loc} {k j : Nat} {g : JFrame} {mk : MethodId} {a : Array Value} (Y : Stand p l e R s m args below meth c U locs cells slots) (hW : U.WarmedH s₂.vm) (hs : (U.calling g mk a).sameButNew ({ s₂ with vm := (U.calling g mk a).vm } : State) L k j) :
    Stand p l e R s m args below meth c (zx_to U s₂) (locs ++ L) (cells + k) (slots + j) ∧ s₂ = ({ (U.calling g mk a).setFrames s₂.frames with heap := s₂.heap, slotsUsed := s₂.slotsUsed } : State).setVm s₂.vm := by
  obtain ⟨e2, q2, q3, q4, q5, q6⟩ := hs
  obtain ⟨g₀, hg0⟩ := Option.isSome_iff_exists.mp Y.here.top
  obtain ⟨r, hr⟩ := State.topJava?_eq_some.mp hg0
  have hsame : U.sameButNew ({ U with heap := s₂.heap, slotsUsed := s₂.slotsUsed } : State) L k j := by
    refine ⟨?_, q2, q3, q4, q5, q6⟩
    obtain ⟨t, ht, -⟩ := State.frames_cons hr
    show ({ U with heap := s₂.heap, slotsUsed := s₂.slotsUsed } : State) = { U.setFrames U.frames with heap := s₂.heap, slotsUsed := s₂.slotsUsed }
    rw [State.setFrames_self ht]
  refine ⟨⟨Y.admits, Y.cas, Y.clock, Y.frames, Y.room, Y.hears, Y.method, Y.code, (Y.here.setHeapUsed s₂.heap s₂.slotsUsed).setVm hW.alike, Y.tail, State.WarmedH.trans Y.warmed hW, Y.limits, Y.bytes, Y.same.trans (hsame.setVm s.vm)⟩, ?_⟩
  have h9 : s₂ = ({ s₂ with vm := (U.calling g mk a).vm } : State).setVm s₂.vm := rfl
  rw [e2] at h9
  exact h9
/-- a callee that returns or throws, begun from a point where this invocation stands -/
theorem zx_back (hM : zx_Met l y cy ny ry fr lo D dA B av h r h') {U : State} (Y : Stand p l e R s m args below meth c U locs cells slots) {g : JFrame} (hg : g.method = m) (hsize : g.locals.size = c.maxLocals) {ig : Instr} (hdg : decode c.code g.pc = .ok (ig, len)) (hW9 : 2 * g.monitorRoom + (g.stack.map fun v => v.category).sum ≤ 8)
    {mk : MethodId} (hn : U.methodNamed? y = some mk) (hP : zx_P D dA B av h av.toArray U) (hz : ∀ w ∈ zT, w.before av.toArray U = true) (w4 : Cond.initialized y.cls ∈ zT) (w5 : Cond.code y cy ny ry ∈ zT) (hR : fr + 1 ≤ R.frames ∧ 8 + (ny + 11) + lo ≤ R.locals) (hcs : cells + 1 ≤ R.cells ∧ slots + 6 ≤ R.slots) :
    (∃ (v : Option Value) (s₂ : State) (L : List Loc), r = .inl v ∧ Stand p l e R s m args below meth c (zx_to U s₂) (locs ++ L) cells slots ∧ (∀ z ∈ L, B ≤ z.base) ∧ z_G D dA B h' s₂ ∧ va_F (fun q => B ≤ q) U s₂ ∧
      Steps p.tables e below (doInvoke e (U.setTop g) [] mk av.toArray).1 ((zx_to U s₂).setTop { g with pc := g.pc + len, stack := v.toList ++ g.stack })) ∨
    (∃ (E : String) (q : Addr) (ce : Cell) (s₂ : State) (L : List Loc), r = .inr E ∧ Stand p l e R s m args below meth c (zx_to U s₂) (locs ++ L) (cells + 1) (slots + 6) ∧ (∀ z ∈ L, B ≤ z.base) ∧ z_G D dA B h' s₂ ∧ va_F (fun q => B ≤ q) U s₂ ∧ s₂.heap[q]? = some ce ∧ ce.vm = .none ∧ U.vm.findClass E = some ce.cls ∧
      Steps p.tables e below (doInvoke e (U.setTop g) [] mk av.toArray).1 (((zx_to U s₂).setTop g).pushFrame (.throwing q))) := by
  obtain ⟨methY, cY, hmY, hcY, -, hlY, -, -, -, -⟩ := Cond.code_spec hn (hz _ w5)
  obtain ⟨kY, hkY, -⟩ := className_of_methodNamed hn
  have hini : kY.init = .initialized := Cond.initialized_spec (findClass_of_methodNamed hn) hkY (hz _ w4)
  have hat : At U g.method c below := by rw [hg]; exact Y.here
  have hpre : (headSpec (z_ws y cy ny ry) (zx_rm fr lo)).pre.before av.toArray U = true := atoms_intro fun w hw => hz w (z_all w5 w hw)
  have happ : (headSpec (z_ws y cy ny ry) (zx_rm fr lo)).appliesLoose y e.platform (U.calling g mk av.toArray) = true :=
    Spec.appliesLoose_calling (g := g) hat hdg hn hkY hini (Y.room_calling (g := g) (R' := (headSpec (z_ws y cy ny ry) (zx_rm fr lo)).room) hsize hmY hcY hR.1 (by rw [hlY]; have h9 := hR.2; show _ + lo ≤ R.locals; omega) hcs.1 hcs.2) hpre
  have hPc : zx_P D dA B av h av.toArray (U.calling g mk av.toArray) := ⟨z_G.blind _ U g mk hP.1, hP.2⟩
  obtain ⟨mid, hmid⟩ := hat.above
  have hfr : (U.setTop g).frames = (.java g :: mid) ++ below := by rw [State.frames_setTop' g hat.top, hmid]; rfl
  obtain ⟨o, s₂, hsteps, -, hend, hq⟩ := Steps.callFree hM p Y.admits Y.cas Y.clock (acts := []) hfr happ hPc trivial
  have hq' : zx_Q D dA B r h' av.toArray (U.calling g mk av.toArray) o s₂ := hq
  obtain ⟨hG, hWm, hF, hO⟩ := hq'
  have hWm' : U.WarmedH s₂.vm := hWm
  rw [State.frames_setTop' g hat.top] at hend
  obtain ⟨g₀, hg0⟩ := Option.isSome_iff_exists.mp hat.top
  obtain ⟨rr, hr⟩ := State.topJava?_eq_some.mp hg0
  have hr' : (zx_to U s₂).frames = .java g₀ :: rr := hr
  cases r with
  | inl v =>
    obtain ⟨rfl, L, hsm, hL⟩ := hO
    obtain ⟨Y', e3⟩ := zx_stand Y hWm' hsm
    obtain ⟨c₂, i₂, len₂, hc₂, hd₂, hf₂⟩ := hend
    have hcc : c₂ = c := by
      have h1 : s₂.code? g.method = U.code? g.method := by
        rw [State.code?_eq, State.code?_eq, hWm'.alike.method?]
      exact Option.some.inj (hc₂.symm.trans (h1.trans hat.code))
    subst hcc
    have hlen : len₂ = len := by rw [hdg] at hd₂; cases hd₂; rfl
    subst hlen
    have hs₂ : s₂ = (zx_to U s₂).setTop { g with pc := g.pc + len₂, stack := v.toList ++ g.stack } := by
      refine e3.trans ?_
      rw [hf₂, State.calling_eq hat.top, State.setFrames_setFrames, State.setTop_of_frames _ hr', hr]
      rfl
    refine Or.inl ⟨v, s₂, L, rfl, Y', hL, hG, hF, ?_⟩
    rw [← hs₂]
    exact hsteps
  | inr E =>
    obtain ⟨⟨q, ce, rfl, hce, hcv, hcl⟩, L, hsm, hL⟩ := hO
    obtain ⟨Y', e3⟩ := zx_stand Y hWm' hsm
    have hf₂ : s₂.frames = .throwing q :: .java g :: U.frames.tail := hend
    have hs₂ : s₂ = ((zx_to U s₂).setTop g).pushFrame (.throwing q) := by
      refine e3.trans ?_
      rw [hf₂, State.calling_eq hat.top, State.setFrames_setFrames, State.pushFrame, State.frames_setTop _ hr', State.setTop_of_frames _ hr', State.setFrames_setFrames, hr]
      rfl
    refine Or.inr ⟨E, q, ce, s₂, L, rfl, Y', hL, hG, hF, hce, hcv, hcl, ?_⟩
    rw [← hs₂]
    exact hsteps
/-- q is being thrown over the frame g -/
def zx_T (p : Program) (l : Launch) (e : Env) (R : Room) (s : State) (m : MethodId) (args : Array Value) (below : List Frame) (meth : Method) (c : Code) (H : Heap) (locs : List Loc) (cells slots : Nat) (Q : State → Prop) (g : JFrame) (q : Addr) : Prop :=
  ∀ T : State, T.heap = H → Stand p l e R s m args below meth c T locs cells slots → ∃ t, Steps p.tables e below ((T.setTop g).pushFrame (.throwing q)) t ∧ Q t
theorem zx_in {U s₂ : State} {L : List Loc} (hU : U.heap = H) (hI : z_I D dA B h s.heap H locs) (hG : z_G D dA B h' s₂) (hF : va_F (fun q => B ≤ q) U s₂) (hL : ∀ z ∈ L, B ≤ z.base) : z_I D dA B h' s.heap (zx_to U s₂).heap (locs ++ L) := by
  obtain ⟨hz, hk⟩ := hF
  rw [hU] at hz hk
  refine ⟨hG.1, Nat.le_trans hI.2.1 hz, fun q hq hn => ?_, fun x hx => ?_⟩
  · show s₂.heap[q]? = _
    rw [hk q (Nat.lt_of_lt_of_le hq hI.2.1) hn]
    exact hI.2.2.1 q hq hn
  · rcases List.mem_append.mp hx with h9 | h9
    · exact hI.2.2.2 x h9
    · exact hL x h9
theorem zx_callV (X : z_X p s m args meth c cc nL ret Ts own D dA B) (hSt : z_St B s s.heap) (hI : z_I D dA B h s.heap H locs) {ci : Nat} {q : vw_C} {u : Unit} (hO : gO h b ci = some u) (hM : zx_Met l y cy ny ry fr lo D dA B (.ref b :: As) h r h') (hc : zcl[ci]? = some q) (hq : q.1 = y.cls) (w1 : Cond.methodLink own index y ∈ zT) (w : z_yV y cy ny ry n) (hn : As.length = n) (hls : ls.size = nL) (hst : st0 = As.reverse ++ .ref b :: rest) (hro : (rest.map fun v => v.category).sum ≤ 8)
    (hR : fr + 1 ≤ R.frames ∧ 8 + (ny + 11) + lo ≤ R.locals) (hcs : cells + 1 ≤ R.cells ∧ slots + 6 ≤ R.slots) (hdg : decode cc pc = .ok (.invokevirtual index, 3))
    (kr : ∀ v : Option Value, r = .inl v → ∀ (H1 : Heap) (locs1 : List Loc), z_I D dA B h' s.heap H1 locs1 → W p l e R s m args below meth c H1 locs1 cells slots Q (F0 m (pc + 3) ls (v.toList ++ rest)))
    (kt : ∀ E : String, r = .inr E → ∀ (H1 : Heap) (locs1 : List Loc) (q : Addr) (ce : Cell), z_I D dA B h' s.heap H1 locs1 → H1[q]? = some ce → ce.vm = .none → s.vm.findClass E = some ce.cls → zx_T p l e R s m args below meth c H1 locs1 (cells + 1) (slots + 6) Q (F0 m pc ls rest) q) : W p l e R s m args below meth c H locs cells slots Q (F0 m pc ls st0) := by
  obtain ⟨w2, w3, w4, w5, w6, w7, w8⟩ := w
  obtain ⟨fs, he⟩ := gO_s hO
  obtain ⟨ws, q0, hPw, hD, hS, hq0, -⟩ := hI.rd he
  obtain ⟨cellB, hcB, hoB, hclB⟩ := va_recv X.2.2.1 hPw hc hq0
  rw [hq] at hclB
  intro T hT Y
  obtain ⟨mk, methM, hnamed, hmethM, hstM, habM⟩ := Cond.instanceMethod_spec (z_w X w2)
  obtain ⟨methM', cM, hmethM', -, -, -, -, -, -, hsigM⟩ := Cond.code_spec hnamed (z_w X w5)
  cases hmethM.symm.trans hmethM'
  obtain ⟨c2, r2, m2, q1, q2, q3, q4, kP, hkP, hkPi⟩ := Cond.selects_spec (z_w X w3)
  cases hclB.symm.trans q1
  cases (State.methodFound?_of_named hnamed ⟨w6, w7⟩).symm.trans q2
  cases hnamed.symm.trans q3
  have hselP : selectMethod e.platform s.vm cellB.cls mk = .method mk := by rw [Launch.admits_selectMethod Y.admits]; exact q4
  have hlen : As.length = methM.sig.parameters.length := by
    rw [hsigM] at w8
    exact hn.trans (Option.some.inj w8).symm
  obtain ⟨vm₁, Y₁, hstep₁⟩ := Y.invokevirtual (z_hx X) X.1.2.2.2.1 (z_w X w1) hnamed hmethM hstM hkP hkPi ⟨w6, w7⟩ (a := b) (cell := cellB) (by rw [hT]; exact hcB)
    (fun z h9 => by rw [h9] at hoB; cases hoB) hselP hmethM habM hkP hkPi (g := F0 m pc ls st0) rfl (argsL := As) (rest := rest) hlen hst (by rw [z_hb X]; exact hdg)
  have hU : (T.setVm vm₁).heap = H := hT
  have hP1 : zx_P D dA B (.ref b :: As) h (Value.ref b :: As).toArray (T.setVm vm₁) := ⟨z_pre X hI _ _ hU Y₁.warmed, hSt.to Y₁.warmed.alike (fun q hq => by rw [hU]; exact z_below X hI q hq)⟩
  rcases zx_back hM Y₁ (g := F0 m pc ls rest) rfl (hls.trans X.1.2.2.1.symm) (by rw [z_hb X]; exact hdg) (lv_room hro) (Y₁.named hnamed) hP1 (fun w hw => word_at Y₁.warmed (z_good hw) (z_w X hw)) w4 w5 hR hcs with ⟨v, s₂, L, er, Y', hL, hG, hF, st⟩ | ⟨E, q9, ce, s₂, L, er, Y', hL, hG, hF, hce, hcv, hcl, st⟩
  · obtain ⟨t, a1, b1⟩ := kr v er _ _ (zx_in hU hI hG hF hL) _ rfl Y'
    exact ⟨t, hstep₁ _ fun acts => by rw [doInvoke_state]; exact st.trans a1, b1⟩
  · have hcl' : s.vm.findClass E = some ce.cls := by
      have h9 := hcl
      rw [Y₁.warmed.alike.findClass] at h9
      exact h9
    obtain ⟨t, a1, b1⟩ := kt E er _ _ q9 ce (zx_in hU hI hG hF hL) hce hcv hcl' _ rfl Y'
    exact ⟨t, hstep₁ _ fun acts => by rw [doInvoke_state]; exact st.trans a1, b1⟩
/-- not caught here: it goes on to the caller -/
theorem zx_out {E : String} {ce : Cell} {q : Addr} (X : z_X p s m args meth c cc nL ret Ts own D dA B) (hno : ∀ x ∈ c.exceptionTable.toList, False) (hI : z_I D dA B h s.heap H locs) (hce : H[q]? = some ce) (hcv : ce.vm = .none) (hcl : s.vm.findClass E = some ce.cls) : zx_T p l e R s m args below meth c H locs (0 + 1) (0 + 6) (zx_MQ below D dA B (.inr E) h args s) (F0 m pc ls rest) q := by
  intro T hT Y
  obtain ⟨st1, hrun, hend, hW, hsm⟩ := Y.leaveThrown q (g := F0 m pc ls rest) rfl rfl rfl (fun x hx => (hno x hx).elim) X.2.2.2.2.1
  refine ⟨_, st1, .threw q, hrun, hend, ⟨?_, va_K.moved hW.alike X.2.2.1, ?_⟩, hW, ⟨?_, ?_⟩, ⟨q, ce, rfl, ?_, hcv, hcl⟩, locs, hsm, hI.2.2.2⟩
  · show z_V D dA B h T.heap
    rw [hT]; exact hI.1
  · show B ≤ T.heap.size
    rw [hT]; exact Nat.le_trans X.2.2.2.1 hI.2.1
  · show s.heap.size ≤ T.heap.size
    rw [hT]; exact hI.2.1
  · intro q1 h1 h2
    show T.heap[q1]? = _
    rw [hT]; exact hI.2.2.1 q1 h1 h2
  · show T.heap[q]? = _
    rw [hT]; exact hce
end ZB1
def zx_ri (r : Int32 ⊕ String) : Option Value ⊕ String := match r with
  | .inl x => .inl (some (.int x))
  | .inr E => .inr E
def zx_rv (r : Unit ⊕ String) : Option Value ⊕ String := match r with
  | .inl _ => .inl none
  | .inr E => .inr E
def zx_k {α β : Type} (r : (α ⊕ String) × z_H) (k : α → z_H → Option ((β ⊕ String) × z_H)) : Option ((β ⊕ String) × z_H) := match r.1 with
  | .inl x => k x r.2
  | .inr E => some (.inr E, r.2)
theorem zx_kl {α β : Type} {x : α} {h : z_H} {k : α → z_H → Option ((β ⊕ String) × z_H)} {y : (β ⊕ String) × z_H} (e : zx_k (.inl x, h) k = some y) : k x h = some y := e
theorem zx_kr {α β : Type} {E : String} {h : z_H} {k : α → z_H → Option ((β ⊕ String) × z_H)} {y : (β ⊕ String) × z_H} (e : zx_k (.inr E, h) k = some y) : ((.inr E : β ⊕ String), h) = y := Option.some.inj e
def z_pk (i : Nat) : Option Cond := if i < 5000 then lw_tbl[i]? else z_bad[i - 5000]?
theorem z_msb {L : List Cond} (ps : List Nat) (hp : L = ps.filterMap z_pk) (hg : ps.all (fun i => decide (5000 ≤ i) || (lw_tbl[i]?).all goodWord) = true) : ∀ w ∈ L, w ∈ zT ∨ w ∈ z_bad := by
  intro w hw
  rw [hp] at hw
  obtain ⟨i, hi, h1⟩ := List.mem_filterMap.mp hw
  have h2 := List.all_eq_true.mp hg i hi
  unfold z_pk at h1
  split at h1
  · next h3 =>
    left
    simp only [Bool.or_eq_true, decide_eq_true_eq] at h2
    rcases h2 with h2 | h2
    · omega
    · rw [h1] at h2
      exact z_m i h1 h2
  · right
    exact List.mem_of_getElem? h1
theorem xf1 : Bundle.fit xE1 = true := by decide +kernel
theorem xf2 : Bundle.fit xE2 = true := by decide +kernel
theorem xf3 : Bundle.fit xE3 = true := by decide +kernel
theorem xf4 : Bundle.fit xE4 = true := by decide +kernel
