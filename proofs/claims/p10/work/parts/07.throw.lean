/-! methods that return or throw -/
abbrev xE1 : String := "java/lang/IllegalArgumentException"
abbrev xE2 : String := "java/lang/IllegalStateException"
abbrev xE3 : String := "java/lang/IndexOutOfBoundsException"
abbrev xE4 : String := "java/lang/ArithmeticException"
/-- words that don't lie in zT: they are carried as a fact of the state -/
def z_bad : List Cond := [.isRef (.static Bundle.tN "UNASSIGNED_STACK" Bundle.steD), .isRef (.static Bundle.tN "SUPPRESSED_SENTINEL" Bundle.listD), .laysStatic Bundle.tN "UNASSIGNED_STACK" Bundle.steD, .laysStatic Bundle.tN "SUPPRESSED_SENTINEL" Bundle.listD,
  .declares (Bundle.init0 "java/lang/RuntimeException"), .declares (Bundle.init0 "java/lang/Exception"), .declares (Bundle.init0 Bundle.tN), .castable xE1 xE1, .castable xE2 xE2, .castable xE3 xE3, .castable xE4 xE4,
  .not (.castable xE2 xE1), .not (.castable xE3 xE1), .not (.castable xE4 xE1), .not (.castable xE1 xE2), .not (.castable xE3 xE2), .not (.castable xE4 xE2), .not (.castable xE1 xE3), .not (.castable xE2 xE3), .not (.castable xE4 xE3), .not (.castable xE1 xE4), .not (.castable xE2 xE4), .not (.castable xE3 xE4)]
def z_St (B : Nat) (U : State) (H : Heap) : Prop := ∀ (U' : State) (a' : Array Value), U.vm.Alike U'.vm → (∀ q : Nat, q < B → U'.heap[q]? = H[q]?) → ∀ w ∈ z_bad, w.before a' U' = true
theorem z_St.to {B : Nat} {U U1 : State} {H H1 : Heap} (h : z_St B U H) (hv : U.vm.Alike U1.vm) (hH : ∀ q : Nat, q < B → H1[q]? = H[q]?) : z_St B U1 H1 := fun U' a' v' q' => h U' a' (hv.trans v') (fun q hq => (q' q hq).trans (hH q hq))
def zx_O (B : Nat) (r : Option Value ⊕ String) (st : State) (o : Outcome) (t : State) : Prop := match r with
  | .inl v => o = .returned v ∧ ∃ L : List Loc, st.sameButNew ({ t with vm := st.vm } : State) L 0 0 ∧ ∀ z ∈ L, B ≤ z.base
  | .inr E => (∃ (q : Addr) (ce : Cell), o = .threw q ∧ t.heap[q]? = some ce ∧ ce.vm = .none ∧ st.vm.findClass E = some ce.cls) ∧ ∃ L : List Loc, st.sameButNew ({ t with vm := st.vm } : State) L 1 6 ∧ ∀ z ∈ L, B ≤ z.base
def zx_Q (D : va_G) (dA : Nat → ClassId) (B : Nat) (r : Option Value ⊕ String) (h' : z_H) : Array Value → State → Outcome → State → Prop := fun _ st o t => z_G D dA B h' t ∧ st.WarmedH t.vm ∧ va_F (fun q => B ≤ q) st t ∧ zx_O B r st o t
def zx_P (D : va_G) (dA : Nat → ClassId) (B : Nat) (av : List Value) (h : z_H) : Array Value → State → Prop := fun v U => z_P D dA B av h v U ∧ z_St B U U.heap
abbrev zx_rm (fr lo : Nat) : Room := { frames := fr, cells := 1, slots := 6, locals := lo }
def zx_Met (l : Launch) (y : MethodName) (cc : ByteArray) (nL : Nat) (ret : Option FieldType) (fr lo : Nat) (D : va_G) (dA : Nat → ClassId) (B : Nat) (av : List Value) (h : z_H) (r : Option Value ⊕ String) (h' : z_H) : Prop :=
  MetFree l y (headSpec (z_ws y cc nL ret) (zx_rm fr lo)) (zx_P D dA B av h) (fun _ _ _ _ _ => True) (zx_Q D dA B r h')
def zx_MQ (below : List Frame) (D : va_G) (dA : Nat → ClassId) (B : Nat) (r : Option Value ⊕ String) (h' : z_H) (a : Array Value) (s : State) : State → Prop := fun t => ∃ o, t.status = .running ∧ Ended t below o ∧ zx_Q D dA B r h' a s o t
section ZX
variable {p : Program} {l : Launch} {e : Env} {R : Room} {s : State} {m : MethodId} {args : Array Value} {below : List Frame} {meth : Method} {c : Code} {H : Heap} {locs : List Loc} {cells slots : Nat} {Q : State → Prop}
variable {cc cy : ByteArray} {pc nL ny index n fr lo : Nat} {ret ry : Option FieldType} {ls : Array Slot} {rest st0 : List Value} {Ts : List Cond} {own : String} {D : va_G} {dA : Nat → ClassId} {B b : Nat} {h h' : z_H} {y : MethodName} {As : List Value}
/-- a body that returns -/
theorem zx_ret {v : Option Value} {g : JFrame} {a : Array Value} (k : W p l e R s m args below meth c H locs cells slots (MQ below (z_Q D dA B v h') a s 0 0 (fun q => B ≤ q)) g) : W p l e R s m args below meth c H locs cells slots (zx_MQ below D dA B (.inl v) h' a s) g := by
  intro T hT Y
  obtain ⟨t, a1, o, b1, b2, ⟨ho, hG, hF⟩, L, hfe, hL⟩ := k T hT Y
  exact ⟨t, a1, o, b1, b2, hG, hfe.2.1, hF, ho, L, hfe.2.2, hL⟩
/-- a body's beginning -/
theorem zx_of {av : List Value} {r : Option Value ⊕ String} (hy : plainName y.cls = true) (hlen : (lg_sl av).length ≤ ny)
    (body : ∀ (p : Program) (e : Env) (s : State) (m : MethodId) (below : List Frame) (meth : Method) (c : Code) (ls : Array Slot), z_X p s m av.toArray meth c cy ny ry (z_ws y cy ny ry) y.cls D dA B → (∀ x ∈ c.exceptionTable.toList, False) → z_St B s s.heap → z_I D dA B h s.heap s.heap [] → lv_has ls ny (lv_args 0 av) →
      W p l e (zx_rm fr lo) s m av.toArray below meth c s.heap [] 0 0 (zx_MQ below D dA B r h' av.toArray s) (F0 m 0 ls [])) : zx_Met l y cy ny ry fr lo D dA B av h r h' := by
  refine MetFree.of_bodyS (code := cy) (maxLocals := ny) (ret := ry) hy ?_ ?_
  · intro args s m h1 hn
    obtain ⟨meth, c, q1, q2, q3, q4, q5, q6, -, -⟩ := Cond.code_spec hn (atoms_spec (ws := z_ws y cy ny ry) h1 _ List.mem_cons_self)
    exact ⟨meth, c, q1, q2, q3, q4, q5, q6⟩
  · intro p e s m args below meth c s₁ Bd hml hv _
    obtain ⟨⟨rfl, hV, hK, hB⟩, hSt⟩ := hv
    have hl := lv_entry av (n := ny) hlen
    have hx : ∀ x ∈ c.exceptionTable.toList, False := by
      have h9 := Bd.noHandlers (atoms_spec (ws := z_ws y cy ny ry) Bd.pre _ List.mem_cons_self)
      intro x hx
      rw [Array.isEmpty_iff.mp h9] at hx
      cases hx
    have hh : s₁.heap = s.heap := by rw [Bd.state]; rfl
    have K := body p e s m below meth c _ ⟨⟨Bd.exec, Bd.bytes, hml, findClass_of_methodNamed Bd.named, atoms_spec (ws := z_ws y cy ny ry) Bd.pre⟩, fun w hw => List.mem_cons_of_mem _ hw, hK, hB, Bd.notSynchronized, Bd.returns⟩ hx hSt ⟨hV, va_S.rf⟩ hl
    rw [← lg_entry_eq] at K
    obtain ⟨t, a1, o, b1, b2, b3⟩ := K s₁ hh (Stand.of_body Bd)
    exact ⟨t, o, a1, b1, b2, b3⟩
end ZX
