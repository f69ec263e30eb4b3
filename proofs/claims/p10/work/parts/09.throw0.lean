abbrev z_nm : List String := ["java/lang/RuntimeException", "java/lang/Exception"]
section ZZ
variable {p : Program} {l : Launch} {e : Env} {R : Room} {s : State} {m : MethodId} {args : Array Value} {below : List Frame} {meth : Method} {c : Code} {H : Heap} {locs : List Loc} {cells slots : Nat} {Q : State → Prop}
variable {cc cy : ByteArray} {pc nL ny index n fr lo : Nat} {ret ry : Option FieldType} {ls : Array Slot} {rest st0 : List Value} {Ts : List Cond} {own : String} {D : va_G} {dA : Nat → ClassId} {B b : Nat} {h h' : z_H} {y : MethodName} {As : List Value}
theorem z_below (X : z_X p s m args meth c cc nL ret Ts own D dA B) (hI : z_I D dA B h s.heap H locs) : ∀ q : Nat, q < B → H[q]? = s.heap[q]? := fun q hq => hI.2.2.1 q (Nat.lt_of_lt_of_le hq X.2.2.2.1) (Nat.not_le.mpr hq)
set_option maxHeartbeats 1000000 in
/-- throw new E() : new, dup, invokespecial, athrow; nothing here catches it -/
theorem zx_throw (X : z_X p s m args meth c cc nL ret Ts own D dA B) (hl : l.stackTraces = false) (hno : ∀ x ∈ c.exceptionTable.toList, False) (hSt : z_St B s s.heap) (hI : z_I D dA B h s.heap H locs) {cls : String} {ik ic : Nat} (hcls : Bundle.fit cls = true)
    (w1 : Cond.classLink own ik cls ∈ zT) (w2 : Cond.initialized cls ∈ zT) (hat : ∀ w ∈ Bundle.ownAtoms0 own ic cls z_nm, w ∈ zT ∨ w ∈ z_bad) (hls : ls.size = nL)
    (d0 : decode cc pc = .ok (.new ik, 3)) (d3 : decode cc (pc + 3) = .ok (.dup, 1)) (d4 : decode cc (pc + 4) = .ok (.invokespecial ic, 3)) (d7 : decode cc (pc + 7) = .ok (.athrow, 1))
    (hR : 5 < R.frames ∧ (rest.map fun v => v.category).sum + 81 ≤ R.locals ∧ 1 ≤ R.cells ∧ 6 ≤ R.slots) : W p l e R s m args below meth c H locs 0 0 (zx_MQ below D dA B (.inr cls) h args s) (F0 m pc ls rest) := by
  intro T hT Y
  have hexec := z_hx X
  have hb := z_hb X
  have htr : e.platform.stackTraces = false := (show e.platform.stackTraces = l.stackTraces by rw [Y.admits.platform]).trans hl
  have V := z_again Y (Z := { frames := R.frames, locals := R.locals, cells := 1, slots := 6 }) (Nat.le_refl _) (Nat.le_refl _) (by have := hR.2.2.1; show 0 + 1 ≤ R.cells; omega) (by have := hR.2.2.2; show 0 + 6 ≤ R.slots; omega)
  obtain ⟨s', hs'⟩ : ∃ z, z = (T.setVm s.vm).setFrames (.invoking m args :: below) := ⟨_, rfl⟩
  rw [← hs'] at V
  have hvm : s'.vm = s.vm := by rw [hs']; rfl
  have hhp : s'.heap = H := by rw [hs']; exact hT
  have hW0 : s.WarmedH s'.vm := by rw [hvm]; exact State.WarmedH.refl s
  have hz : ∀ w ∈ zT, w.before args s' = true := fun w hw => word_at hW0 (z_good hw) (z_w X hw)
  have hbad : ∀ w ∈ z_bad, w.before args s' = true := hSt s' args (by rw [hvm]; exact Vm.Alike.refl s.vm) (fun q hq => by rw [hhp]; exact z_below X hI q hq)
  have hall : ∀ w ∈ Bundle.ownAtoms0 own ic cls z_nm, w.before args s' = true := fun w hw => (hat w hw).elim (hz w) (hbad w)
  have hown' : s'.vm.findClass own = some m.cls := by rw [hvm]; exact X.1.2.2.2.1
  have hins : (Cond.instantiable cls 6).before args s' = true := hall _ (by simp [Bundle.ownAtoms0])
  obtain ⟨vm₁, cX, kX, hfX, hkX, -, -, V1, st1⟩ := V.newCold hexec (own := own) (C := cls) (index := ik) (n := 6) hown' (hz _ w1) hins (hz _ w2) (g := F0 m pc ls rest) rfl (by rw [hb]; exact d0) (Nat.le_refl _) (Nat.le_refl _)
  generalize hT1 : (T.setVm vm₁).pushCell { cls := cX, slots := kX.instanceTypes.map defaultValue, vm := .none } = T1 at V1 st1
  have hcellA : T1.heap[T.heap.size]? = some (freshCell cX kX) := by rw [← hT1]; exact State.heap_pushCell_size _ _
  have d3' : decode c.code (pc + 3) = .ok (.dup, 1) := by rw [hb]; exact d3
  have hcat : (Value.ref T.heap.size).category = 1 := rfl
  obtain ⟨U, hsteps, hrun, hend, hW, hsame, ce, hce, hO⟩ := V1.ctorThrow0 hexec htr (own := own) (cls := cls) (names := z_nm) (ic := ic) hown' hcls (by decide) hall (fun x hx => nomatch hx) hfX hkX hcellA (by rw [hhp, hT]; exact Nat.le_refl _)
    (g := { method := m, pc := pc + 4, locals := ls, stack := .ref T.heap.size :: .ref T.heap.size :: rest, locked := none }) rfl (hls.trans X.1.2.2.1.symm) rfl rfl (rest := rest) rfl
    (by rw [hb]; exact d4) (by rw [hb]; exact d7) (fun x hx => (hno x hx).elim) hR.1 (by have := hR.2.1; simp only [List.map_cons, List.sum_cons, hcat]; show 2 * 0 + _ + (13 * (2 + 1) + 41) ≤ R.locals; omega) X.2.2.2.2.1
  obtain ⟨f1, f2⟩ := z_lies hsame
  rw [hhp] at f1 f2
  have hWs : s.WarmedH U.vm := State.WarmedH.trans hW0 hW
  have hall2 : s.sameButNew ({ U with vm := s.vm } : State) locs 1 6 := by
    subst hs'
    obtain ⟨e1, e2⟩ := hsame
    rw [State.setFrames_setFrames] at e1
    have h2 : (T.setVm s.vm).sameButNew ({ U with vm := s.vm } : State) [] (0 + 1) (0 + 6) := ⟨e1, e2⟩
    have h3 := Y.same.trans h2
    rw [List.append_nil] at h3
    exact h3
  have hBH : B ≤ H.size := Nat.le_trans X.2.2.2.1 hI.2.1
  refine ⟨U, ?_, .threw T.heap.size, hrun, hend, ⟨hI.1.kept f2, va_K.moved hWs.alike X.2.2.1, Nat.le_trans hBH f1⟩, hWs, ⟨Nat.le_trans hI.2.1 f1, fun q hq hn => (f2 q (Nat.lt_of_lt_of_le hq hI.2.1)).trans (hI.2.2.1 q hq hn)⟩, ⟨T.heap.size, ce, rfl, hce, hO.vm, by have h9 := hO.cls; rw [hvm] at h9; exact h9⟩, locs, hall2, hI.2.2.2⟩
  refine st1 _ ?_
  show Steps p.tables e below (T1.setTop { method := m, pc := pc + 3, locals := ls, stack := .ref T.heap.size :: rest, locked := none }) _
  jvm_step V1.here [V1.here.top, hexec, d3', Value.category]
  exact hsteps
end ZZ
