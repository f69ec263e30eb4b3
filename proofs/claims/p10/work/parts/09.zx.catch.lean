/-! methods with a table of handlers: they return; what was thrown to them costs a cell -/
def zw_ws (y : MethodName) (cc : ByteArray) (n : Nat) (ret : Option FieldType) (hh : List (Nat × Nat × Nat × Nat)) : List Cond := .codeWith y cc n ret hh :: zT
def zw_Q (D : va_G) (dA : Nat → ClassId) (B : Nat) (r : Option Value) (h' : z_H) : Array Value → State → Outcome → State → Prop := fun _ st o t => o = .returned r ∧ z_G D dA B h' t ∧ st.WarmedH t.vm ∧ va_F (fun q => B ≤ q) st t ∧ ∃ L : List Loc, st.sameButNew ({ t with vm := st.vm } : State) L 1 6 ∧ ∀ z ∈ L, B ≤ z.base
def zw_Met (l : Launch) (y : MethodName) (cc : ByteArray) (nL : Nat) (ret : Option FieldType) (hh : List (Nat × Nat × Nat × Nat)) (fr lo : Nat) (D : va_G) (dA : Nat → ClassId) (B : Nat) (av : List Value) (h : z_H) (r : Option Value) (h' : z_H) : Prop :=
  MetFree l y (headSpec (zw_ws y cc nL ret hh) (zx_rm fr lo)) (zx_P D dA B av h) (fun _ _ _ _ _ => True) (zw_Q D dA B r h')
def zw_MQ (below : List Frame) (D : va_G) (dA : Nat → ClassId) (B : Nat) (r : Option Value) (h' : z_H) (a : Array Value) (s : State) : State → Prop := fun t => ∃ o, t.status = .running ∧ Ended t below o ∧ zw_Q D dA B r h' a s o t
def zw_row (x : ExceptionTableEntry) : Nat × Nat × Nat × Nat := (x.startPc, x.endPc, x.handlerPc, x.catchType)
section ZW
variable {p : Program} {l : Launch} {e : Env} {R : Room} {s : State} {m : MethodId} {args : Array Value} {below : List Frame} {meth : Method} {c : Code} {H : Heap} {locs : List Loc} {cells slots : Nat} {Q : State → Prop}
variable {cc cy : ByteArray} {pc nL ny index n fr lo len : Nat} {ret ry : Option FieldType} {ls : Array Slot} {rest st0 : List Value} {Ts : List Cond} {own : String} {D : va_G} {dA : Nat → ClassId} {B b : Nat} {h h' : z_H} {y : MethodName} {As av : List Value} {r : Option Value} {hh : List (Nat × Nat × Nat × Nat)}
theorem zw_ret {v : Option Value} {g : JFrame} {a : Array Value} (hc : cells ≤ 1) (hs : slots ≤ 6) (k : W p l e R s m args below meth c H locs cells slots (MQ below (z_Q D dA B v h') a s cells slots (fun q => B ≤ q)) g) : W p l e R s m args below meth c H locs cells slots (zw_MQ below D dA B v h' a s) g := by
  intro T hT Y
  obtain ⟨t, a1, o, b1, b2, ⟨ho, hG, hF⟩, L, hfe, hL⟩ := k T hT Y
  exact ⟨t, a1, o, b1, b2, ho, hG, hfe.2.1, hF, L, hfe.2.2.mono hc hs, hL⟩
theorem zw_of (hy : plainName y.cls = true) (hlen : (lg_sl av).length ≤ ny)
    (body : ∀ (p : Program) (e : Env) (s : State) (m : MethodId) (below : List Frame) (meth : Method) (c : Code) (ls : Array Slot), z_X p s m av.toArray meth c cy ny ry (zw_ws y cy ny ry hh) y.cls D dA B → c.exceptionTable.toList.map zw_row = hh → z_St B s s.heap → z_I D dA B h s.heap s.heap [] → lv_has ls ny (lv_args 0 av) →
      W p l e (zx_rm fr lo) s m av.toArray below meth c s.heap [] 0 0 (zw_MQ below D dA B r h' av.toArray s) (F0 m 0 ls [])) : zw_Met l y cy ny ry hh fr lo D dA B av h r h' := by
  refine MetFree.of_bodyS (code := cy) (maxLocals := ny) (ret := ry) hy ?_ ?_
  · intro args s m h1 hn
    obtain ⟨m9, meth, c, q0, q1, q2, q3, q4, q5, q6, q7, q8⟩ := Cond.codeWith_spec (atoms_spec (ws := zw_ws y cy ny ry hh) h1 _ List.mem_cons_self)
    cases Option.some.inj (q0.symm.trans hn)
    exact ⟨meth, c, q1, q2, q3, q4, q6, q7⟩
  · intro p e s m args below meth c s₁ Bd hml hv _
    obtain ⟨⟨rfl, hV, hK, hB⟩, hSt⟩ := hv
    have hl := lv_entry av (n := ny) hlen
    have hh9 : c.exceptionTable.toList.map zw_row = hh := by
      obtain ⟨m9, meth9, c9, q0, q1, q2, q3, q4, q5, q6, q7, q8⟩ := Cond.codeWith_spec (atoms_spec (ws := zw_ws y cy ny ry hh) Bd.pre _ List.mem_cons_self)
      cases Option.some.inj (q0.symm.trans Bd.named)
      cases Option.some.inj (q1.symm.trans Bd.method)
      cases Option.some.inj (q2.symm.trans (Stand.of_body Bd).code)
      exact q5
    have hhp : s₁.heap = s.heap := by rw [Bd.state]; rfl
    have K := body p e s m below meth c _ ⟨⟨Bd.exec, Bd.bytes, hml, findClass_of_methodNamed Bd.named, atoms_spec (ws := zw_ws y cy ny ry hh) Bd.pre⟩, fun w hw => List.mem_cons_of_mem _ hw, hK, hB, Bd.notSynchronized, Bd.returns⟩ hh9 hSt ⟨hV, va_S.rf⟩ hl
    rw [← lg_entry_eq] at K
    obtain ⟨t, a1, o, b1, b2, b3⟩ := K s₁ hhp (Stand.of_body Bd)
    exact ⟨t, o, a1, b1, b2, b3⟩
/-- caught: the first row that covers pc and names E; the rows before it name classes that E isn't -/
theorem zw_catch {E : String} {ce : Cell} {q : Addr} (X : z_X p s m args meth c cc nL ret Ts own D dA B) (hSt : z_St B s s.heap) (hh9 : c.exceptionTable.toList.map zw_row = hh) (pre : List (Nat × Nat × Nat × Nat)) (a b hp ct : Nat) (suf : List (Nat × Nat × Nat × Nat)) (hs : hh = pre ++ (a, b, hp, ct) :: suf)
    (hpass : ∀ z ∈ pre, z.2.2.2 ≠ 0 ∧ ∃ nm : String, Cond.classLink own z.2.2.2 nm ∈ zT ∧ Cond.not (.castable E nm) ∈ z_bad) (hcov : a ≤ pc ∧ pc < b) (h0 : ct ≠ 0) (hlink : Cond.classLink own ct E ∈ zT) (hcast : Cond.castable E E ∈ z_bad) (hce : H[q]? = some ce) (hcv : ce.vm = .none) (hcl : s.vm.findClass E = some ce.cls)
    (kk : W p l e R s m args below meth c H locs cells slots Q (F0 m hp ls [.ref q])) : zx_T p l e R s m args below meth c H locs cells slots Q (F0 m pc ls rest) q := by
  intro T hT Y
  have hbad : ∀ w ∈ z_bad, w.before args s = true := hSt s args (Vm.Alike.refl s.vm) (fun _ _ => rfl)
  have hpl : e.platform.magicAccessors = ({} : Platform).magicAccessors := by rw [Y.admits.platform]
  rw [hs] at hh9
  obtain ⟨P1, P2, e1, e2, e3⟩ := List.map_eq_append_iff.mp hh9
  obtain ⟨x, S1, e4, e5, e6⟩ := List.map_eq_cons_iff.mp e3
  subst e4
  have g1 : x.startPc = a := congrArg (fun z => z.1) e5
  have g2 : x.endPc = b := congrArg (fun z => z.2.1) e5
  have g3 : x.handlerPc = hp := congrArg (fun z => z.2.2.1) e5
  have g4 : x.catchType = ct := congrArg (fun z => z.2.2.2) e5
  obtain ⟨c3, c4, hc3, hc4, hasg⟩ := Cond.castable_spec (hbad _ hcast)
  cases Option.some.inj (hc3.symm.trans hcl)
  have hx : covers x pc = true := by
    unfold covers
    rw [g1, g2]
    simp [hcov.1, hcov.2]
  obtain ⟨vm', Y', st⟩ := Y.thenCaughtThrough q (g := F0 m pc ls rest) rfl (Steps.refl _) (by rw [hT]; exact hce) (by rw [hcv]; rfl) (by obtain ⟨k9, h9, -⟩ := Vm.findClass_spec hcl; exact ⟨k9, h9⟩) P1 x S1 e1
    (fun z hz => by
      have hz2 : zw_row z ∈ pre := by rw [← e2]; exact List.mem_map.mpr ⟨z, hz, rfl⟩
      obtain ⟨k1, nm, k2, k3⟩ := hpass _ hz2
      exact RowPassed.of_words hpl X.1.2.2.2.1 k1 (z_w X k2) hcl (hbad _ k3))
    hx (Y.catches_of_link X.1.2.2.2.1 (by rw [g4]; exact h0) (by rw [g4]; exact z_w X hlink) hc4 hasg).1
  rw [g3] at st
  obtain ⟨t, a1, b1⟩ := kk (T.setVm vm') hT Y'
  exact ⟨t, st.trans a1, b1⟩
end ZW
