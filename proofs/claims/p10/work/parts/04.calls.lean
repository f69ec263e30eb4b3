/-! contracts that return: from an abstract heap to another, nothing is made -/
def z_P (D : va_G) (dA : Nat → ClassId) (B : Nat) (av : List Value) (h : z_H) : Array Value → State → Prop := fun v U => v = av.toArray ∧ z_G D dA B h U
def z_Q (D : va_G) (dA : Nat → ClassId) (B : Nat) (r : Option Value) (h' : z_H) : Array Value → State → Outcome → State → Prop := fun _ st oc t => oc = .returned r ∧ z_G D dA B h' t ∧ va_F (fun q => B ≤ q) st t
abbrev z_rm (fr lo : Nat) : Room := { frames := fr, cells := 0, slots := 0, locals := lo }
def z_Met (l : Launch) (y : MethodName) (cc : ByteArray) (nL : Nat) (ret : Option FieldType) (fr lo : Nat) (D : va_G) (dA : Nat → ClassId) (B : Nat) (av : List Value) (h : z_H) (r : Option Value) (h' : z_H) : Prop :=
  Met l y (z_ws y cc nL ret) (z_rm fr lo) (z_P D dA B av h) (z_Q D dA B r h') 0 0 (fun q => B ≤ q)
theorem z_G.blind {D : va_G} {dA : Nat → ClassId} {B : Nat} {av : List Value} {h : z_H} : FrameBlind (z_P D dA B av h) := by
  intro a U g mk hq
  obtain ⟨q0, qV, qK, qB⟩ := hq
  exact ⟨q0, qV, va_K.moved (u := U) (U := U.calling g mk a) (Vm.Alike.refl U.vm) qK, qB⟩
/-- what the tables say of a method that is called on an object; of a static one -/
def z_yV (y : MethodName) (cy : ByteArray) (ny : Nat) (ry : Option FieldType) (n : Nat) : Prop :=
  Cond.instanceMethod y ∈ zT ∧ Cond.selects y.cls y y ∈ zT ∧ Cond.initialized y.cls ∈ zT ∧ Cond.code y cy ny ry ∈ zT ∧ y.cls ≠ "java/lang/invoke/MethodHandle" ∧ y.cls ≠ "java/lang/invoke/VarHandle" ∧ (parseMethodDescriptor y.desc).map (fun d => d.parameters.length) = some n
def z_yS (y : MethodName) (cy : ByteArray) (ny : Nat) (ry : Option FieldType) (n : Nat) : Prop :=
  Cond.static y ∈ zT ∧ Cond.initialized y.cls ∈ zT ∧ Cond.code y cy ny ry ∈ zT ∧ y.cls ≠ "java/lang/invoke/MethodHandle" ∧ y.cls ≠ "java/lang/invoke/VarHandle" ∧ (parseMethodDescriptor y.desc).map (fun d => d.parameters.length) = some n
def gO (h : z_H) (a ci : Nat) : Option Unit := match h a with
  | some (.inr o) => if o.1 = ci then some () else none
  | _ => none
theorem gO_s {h : z_H} {a ci : Nat} {u : Unit} (e : gO h a ci = some u) : ∃ fs, h a = some (.inr (ci, fs)) := by
  unfold gO at e
  split at e
  · next o ho =>
    split at e
    · next q => exact ⟨o.2, by rw [ho, ← q]⟩
    · cases e
  · cases e
theorem z_all {y : MethodName} {cc : ByteArray} {n : Nat} {ret : Option FieldType} (w : Cond.code y cc n ret ∈ zT) : ∀ x ∈ z_ws y cc n ret, x ∈ zT := fun x hx => (List.mem_cons.mp hx).elim (fun e => by rw [e]; exact w) id
section ZD
variable {p : Program} {l : Launch} {e : Env} {R : Room} {s : State} {m : MethodId} {args : Array Value} {below : List Frame} {meth : Method} {c : Code} {H : Heap} {locs : List Loc} {cells slots : Nat} {Q : State → Prop}
variable {cc cy : ByteArray} {pc nL ny index n fr lo : Nat} {ret ry : Option FieldType} {ls : Array Slot} {rest st0 : List Value} {Ts : List Cond} {own : String} {D : va_G} {dA : Nat → ClassId} {B b : Nat} {h h' : z_H} {y : MethodName} {As : List Value} {r : Option Value}
theorem z_good2 (X : z_X p s m args meth c cc nL ret Ts own D dA B) {ws : List Cond} (hw : ∀ x ∈ ws, x ∈ zT) : GoodIn Ts ws := fun x hx => ⟨X.2.1 x (hw x hx), z_good (hw x hx)⟩
/-- the world behind a call that returned -/
theorem z_run {mc ms : Nat} {a : Array Value} (X : z_X p s m args meth c cc nL ret Ts own D dA B) (hI : z_I D dA B h s.heap H locs) (hr : va_Run p l e R s m args below meth c H locs cells slots mc ms (F0 m pc ls st0) rest (z_Q D dA B r h' a) (fun q => B ≤ q))
    (kk : ∀ (H1 : Heap) (locs1 : List Loc), z_I D dA B h' s.heap H1 locs1 → W p l e R s m args below meth c H1 locs1 (cells + mc) (slots + ms) Q (F0 m (pc + 3) ls (r.toList ++ rest))) : W p l e R s m args below meth c H locs cells slots Q (F0 m pc ls st0) := by
  intro T hT Y
  obtain ⟨v, st₀, t, T', L, h0, Y', hL, e1, e2, ⟨hv, hG, hz, hk⟩, st⟩ := hr T hT Y
  cases hv
  rw [h0] at hz hk
  obtain ⟨hV, hS1, hS2, hS3⟩ := hI
  obtain ⟨t2, a1, b1⟩ := kk T'.heap (locs ++ L) ⟨by rw [e1]; exact hG.1, Nat.le_trans hS1 (by rw [e1]; exact hz), fun q hq hn => by
    rw [e1, hk q (Nat.lt_of_lt_of_le hq hS1) hn]; exact hS2 q hq hn, fun x hx => by
    rcases List.mem_append.mp hx with h9 | h9
    · exact hS3 x h9
    · exact hL x h9⟩ T' rfl Y'
  exact ⟨t2, st t2 a1, b1⟩
theorem z_pre (X : z_X p s m args meth c cc nL ret Ts own D dA B) (hI : z_I D dA B h s.heap H locs) (av : List Value) : ∀ U : State, U.heap = H → s.WarmedH U.vm → z_P D dA B av h av.toArray U := by
  intro U hU hW
  refine ⟨rfl, by rw [hU]; exact hI.1, va_K.moved hW.alike X.2.2.1, ?_⟩
  rw [hU]
  exact Nat.le_trans X.2.2.2.1 hI.2.1
theorem z_callV (X : z_X p s m args meth c cc nL ret Ts own D dA B) (hI : z_I D dA B h s.heap H locs) {ci : Nat} {q : vw_C} {u : Unit} (hO : gO h b ci = some u) (hM : z_Met l y cy ny ry fr lo D dA B (.ref b :: As) h r h') (hc : zcl[ci]? = some q) (hq : q.1 = y.cls) (w1 : Cond.methodLink own index y ∈ zT) (w : z_yV y cy ny ry n) (hn : As.length = n) (hls : ls.size = nL) (hst : st0 = As.reverse ++ .ref b :: rest) (hro : (rest.map fun v => v.category).sum ≤ 8)
    (hR : fr + 1 ≤ R.frames ∧ 8 + (ny + 11) + lo ≤ R.locals) (hcs : cells ≤ R.cells ∧ slots ≤ R.slots) (hdg : decode cc pc = .ok (.invokevirtual index, 3))
    (kk : ∀ (H1 : Heap) (locs1 : List Loc), z_I D dA B h' s.heap H1 locs1 → W p l e R s m args below meth c H1 locs1 cells slots Q (F0 m (pc + 3) ls (r.toList ++ rest))) : W p l e R s m args below meth c H locs cells slots Q (F0 m pc ls st0) := by
  obtain ⟨w2, w3, w4, w5, w6⟩ := w
  obtain ⟨fs, he⟩ := gO_s hO
  obtain ⟨ws, q0, hP, hD, hS, hq0, -⟩ := hI.rd he
  have hre := va_recv X.2.2.1 hP hc hq0
  rw [hq] at hre
  have hT : GoodIn Ts (wsV own index y.cls y (z_ws y cy ny ry)) := z_good2 X (fun x hx => by
    rcases List.mem_append.mp hx with h9 | h9
    · simp only [List.mem_cons, List.not_mem_nil, or_false] at h9
      rcases h9 with h9 | h9 | h9 | h9
      · rw [h9]; exact w1
      · rw [h9]; exact w2
      · rw [h9]; exact w3
      · rw [h9]; exact w4
    · exact z_all w5 x h9)
  exact z_run X hI (va_runV (As := As) (rest := rest) X.1 hM (cwV n X.1.2.2.2.2 hT rfl rfl rfl ⟨rfl, w6⟩ hR) ⟨z_G.blind, hre, z_pre X hI _⟩ rfl hn hls hst (lv_room hro) hdg hcs) kk
theorem z_callS (X : z_X p s m args meth c cc nL ret Ts own D dA B) (hI : z_I D dA B h s.heap H locs) (hM : z_Met l y cy ny ry fr lo D dA B As h r h') (hq : y.cls = own) (w1 : Cond.methodLink own index y ∈ zT) (w : z_yS y cy ny ry n) (hn : As.length = n) (hls : ls.size = nL) (hst : st0 = As.reverse ++ rest) (hro : (rest.map fun v => v.category).sum ≤ 8)
    (hR : fr + 1 ≤ R.frames ∧ 8 + (ny + 11) + lo ≤ R.locals) (hcs : cells ≤ R.cells ∧ slots ≤ R.slots) (hdg : decode cc pc = .ok (.invokestatic index, 3))
    (kk : ∀ (H1 : Heap) (locs1 : List Loc), z_I D dA B h' s.heap H1 locs1 → W p l e R s m args below meth c H1 locs1 cells slots Q (F0 m (pc + 3) ls (r.toList ++ rest))) : W p l e R s m args below meth c H locs cells slots Q (F0 m pc ls st0) := by
  obtain ⟨w2, w4, w5, w6⟩ := w
  have hT : GoodIn Ts (wsS own index y (z_ws y cy ny ry)) := z_good2 X (fun x hx => by
    rcases List.mem_append.mp hx with h9 | h9
    · simp only [List.mem_cons, List.not_mem_nil, or_false] at h9
      rcases h9 with h9 | h9 | h9
      · rw [h9]; exact w1
      · rw [h9]; exact w2
      · rw [h9, ← hq]; exact w4
    · exact z_all w5 x h9)
  exact z_run X hI (va_runS (As := As) (rest := rest) X.1 hM (cwS n X.1.2.2.2.2 hT rfl rfl rfl ⟨hq, w6⟩ hR) ⟨z_G.blind, z_pre X hI _⟩ rfl hn hls hst (lv_room hro) hdg hcs) kk
/-- ends -/
theorem z_end (X : z_X p s m args meth c cc nL ret Ts own D dA B) (hI : z_I D dA B h s.heap H locs) : ∀ t : State, t.heap = H → s.WarmedH t.vm → z_Q D dA B r h args s (.returned r) t := fun t ht hW =>
  ⟨rfl, ⟨by rw [ht]; exact hI.1, va_K.moved hW.alike X.2.2.1, by rw [ht]; exact Nat.le_trans X.2.2.2.1 hI.2.1⟩, hI.2.F ht⟩
theorem z_iret {x : Int32} (X : z_X p s m args meth c cc nL (some .int) Ts own D dA B) (hI : z_I D dA B h s.heap H locs) (hdg : decode cc pc = .ok (.ireturn, 1)) : W p l e R s m args below meth c H locs cells slots (MQ below (z_Q D dA B (some (.int x)) h) args s cells slots (fun q => B ≤ q)) (F0 m pc ls [.int x]) :=
  W.iret (z_hx X) (z_hb X) X.2.2.2.2.2 (z_end X hI) hI.2.2.2 hdg X.2.2.2.2.1
theorem z_zret {x : Int32} (X : z_X p s m args meth c cc nL (some .boolean) Ts own D dA B) (hI : z_I D dA B h s.heap H locs) (hx : x = 0 ∨ x = 1) (hdg : decode cc pc = .ok (.ireturn, 1)) : W p l e R s m args below meth c H locs cells slots (MQ below (z_Q D dA B (some (.int x)) h) args s cells slots (fun q => B ≤ q)) (F0 m pc ls [.int x]) :=
  W.zret (z_hx X) (z_hb X) X.2.2.2.2.2 (by rcases hx with rfl | rfl <;> rfl) (z_end X hI) hI.2.2.2 hdg X.2.2.2.2.1
theorem z_vret (X : z_X p s m args meth c cc nL none Ts own D dA B) (hI : z_I D dA B h s.heap H locs) (hdg : decode cc pc = .ok (.return_, 1)) : W p l e R s m args below meth c H locs cells slots (MQ below (z_Q D dA B none h) args s cells slots (fun q => B ≤ q)) (F0 m pc ls []) :=
  W.vret (z_hx X) (z_hb X) X.2.2.2.2.2 (z_end X hI) hI.2.2.2 hdg X.2.2.2.2.1
/-- a body's beginning -/
theorem z_of {av : List Value} (hy : plainName y.cls = true) (hlen : (lg_sl av).length ≤ ny)
    (body : ∀ (p : Program) (e : Env) (s : State) (m : MethodId) (below : List Frame) (meth : Method) (c : Code) (ls : Array Slot), z_X p s m av.toArray meth c cy ny ry (z_ws y cy ny ry) y.cls D dA B → z_I D dA B h s.heap s.heap [] → lv_has ls ny (lv_args 0 av) →
      W p l e (z_rm fr lo) s m av.toArray below meth c s.heap [] 0 0 (MQ below (z_Q D dA B r h') av.toArray s 0 0 (fun q => B ≤ q)) (F0 m 0 ls [])) : z_Met l y cy ny ry fr lo D dA B av h r h' := by
  refine Met.ofW (cc := cy) (maxL := ny) (ret := ry) hy rfl ?_
  intro p e s m args below meth c s₁ Bd hml hv
  obtain ⟨rfl, hV, hK, hB⟩ := hv
  have hl := lv_entry av (n := ny) hlen
  rw [lg_entry_eq]
  exact body p e s m below meth c _ ⟨⟨Bd.exec, Bd.bytes, hml, findClass_of_methodNamed Bd.named, atoms_spec (ws := z_ws y cy ny ry) Bd.pre⟩, fun w hw => List.mem_cons_of_mem _ hw, hK, hB, Bd.notSynchronized, Bd.returns⟩ ⟨hV, va_S.rf⟩ hl
end ZD
