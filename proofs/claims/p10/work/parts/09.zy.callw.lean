section ZWC
variable {p : Program} {l : Launch} {e : Env} {R : Room} {s : State} {m : MethodId} {args : Array Value} {below : List Frame} {meth : Method} {c : Code} {H : Heap} {locs : List Loc} {cells slots : Nat} {Q : State → Prop}
variable {cc cy : ByteArray} {pc nL ny index n fr lo len : Nat} {ret ry : Option FieldType} {ls : Array Slot} {rest st0 : List Value} {Ts : List Cond} {own : String} {D : va_G} {dA : Nat → ClassId} {B b : Nat} {h h' : z_H} {y : MethodName} {As av : List Value} {r : Option Value} {hh : List (Nat × Nat × Nat × Nat)}
/-- what the tables say of a static method with handlers -/
def z_yW (y : MethodName) (cy : ByteArray) (ny : Nat) (ry : Option FieldType) (hh : List (Nat × Nat × Nat × Nat)) (n : Nat) : Prop :=
  Cond.static y ∈ zT ∧ Cond.initialized y.cls ∈ zT ∧ Cond.codeWith y cy ny ry hh ∈ zT ∧ y.cls ≠ "java/lang/invoke/MethodHandle" ∧ y.cls ≠ "java/lang/invoke/VarHandle" ∧ (parseMethodDescriptor y.desc).map (fun d => d.parameters.length) = some n
theorem zw_callS (X : z_X p s m args meth c cc nL ret Ts own D dA B) (hSt : z_St B s s.heap) (hI : z_I D dA B h s.heap H locs) (hM : zw_Met l y cy ny ry hh fr lo D dA B As h r h') (w1 : Cond.methodLink own index y ∈ zT) (w : z_yW y cy ny ry hh n) (hn : As.length = n) (hls : ls.size = nL) (hst : st0 = As.reverse ++ rest) (hro : (rest.map fun v => v.category).sum ≤ 8)
    (hR : fr + 1 ≤ R.frames ∧ 8 + (ny + 11) + lo ≤ R.locals) (hcs : cells + 1 ≤ R.cells ∧ slots + 6 ≤ R.slots) (hdg : decode cc pc = .ok (.invokestatic index, 3))
    (kk : ∀ (H1 : Heap) (locs1 : List Loc), z_I D dA B h' s.heap H1 locs1 → W p l e R s m args below meth c H1 locs1 (cells + 1) (slots + 6) Q (F0 m (pc + 3) ls (r.toList ++ rest))) : W p l e R s m args below meth c H locs cells slots Q (F0 m pc ls st0) := by
  obtain ⟨w2, w4, w5, w6, w7, w8⟩ := w
  intro T hT Y
  obtain ⟨mk, methM, cM, hnamed, hmethM, hcM, hbM, hlM, -, -, -, hsigM⟩ := Cond.codeWith_spec (z_w X w5)
  have hstatic : methM.isStatic = true := Cond.static_spec hnamed hmethM (z_w X w2)
  obtain ⟨kP, hkP, -⟩ := className_of_methodNamed hnamed
  have hinitP : kP.init = .initialized := Cond.initialized_spec (findClass_of_methodNamed hnamed) hkP (z_w X w4)
  have hlen : As.length = methM.sig.parameters.length := by
    rw [hsigM] at w8
    exact hn.trans (Option.some.inj w8).symm
  obtain ⟨vm₁, Y₁, hstep₁⟩ := Y.invokestatic (z_hx X) X.1.2.2.2.1 (z_w X w1) hnamed hmethM hstatic hkP hinitP ⟨w6, w7⟩ (g := F0 m pc ls st0) rfl (argsL := As) (rest := rest) hlen hst (by rw [z_hb X]; exact hdg)
  have hU : (T.setVm vm₁).heap = H := hT
  have hz : ∀ w ∈ zT, w.before As.toArray (T.setVm vm₁) = true := fun w hw => word_at Y₁.warmed (z_good hw) (z_w X hw)
  have hP1 : zx_P D dA B As h As.toArray (T.setVm vm₁) := ⟨z_pre X hI _ _ hU Y₁.warmed, hSt.to Y₁.warmed.alike (fun q hq => by rw [hU]; exact z_below X hI q hq)⟩
  have hn1 := Y₁.named hnamed
  obtain ⟨m9, methY, cY, hn9, hmY, hcY, -, hlY, -, -, -, -⟩ := Cond.codeWith_spec (hz _ w5)
  cases Option.some.inj (hn9.symm.trans hn1)
  obtain ⟨kY, hkY, -⟩ := className_of_methodNamed hn1
  have hini : kY.init = .initialized := Cond.initialized_spec (findClass_of_methodNamed hn1) hkY (hz _ w4)
  obtain ⟨g, hg⟩ : ∃ z, z = F0 m pc ls rest := ⟨_, rfl⟩
  have hgm : g.method = m := by rw [hg]
  have hat : At (T.setVm vm₁) g.method c below := by rw [hgm]; exact Y₁.here
  have hdg' : decode c.code g.pc = .ok (.invokestatic index, 3) := by rw [hg, z_hb X]; exact hdg
  have hpre : (headSpec (zw_ws y cy ny ry hh) (zx_rm fr lo)).pre.before As.toArray (T.setVm vm₁) = true := atoms_intro fun w hw => (List.mem_cons.mp hw).elim (fun e9 => by rw [e9]; exact hz _ w5) (hz w)
  have hro' : 2 * g.monitorRoom + (g.stack.map fun v => v.category).sum ≤ 8 := by rw [hg]; exact lv_room hro
  have happ : (headSpec (zw_ws y cy ny ry hh) (zx_rm fr lo)).appliesLoose y e.platform ((T.setVm vm₁).calling g mk As.toArray) = true :=
    Spec.appliesLoose_calling (g := g) hat hdg' hn1 hkY hini (Y₁.room_calling (g := g) (R' := (headSpec (zw_ws y cy ny ry hh) (zx_rm fr lo)).room) (by rw [hg]; exact hls.trans X.1.2.2.1.symm) hmY hcY hR.1 (by rw [hlY]; have h9 := hR.2; show _ + lo ≤ R.locals; omega) hcs.1 hcs.2) hpre
  have hPc : zx_P D dA B As h As.toArray ((T.setVm vm₁).calling g mk As.toArray) := ⟨z_G.blind _ _ g mk hP1.1, hP1.2⟩
  obtain ⟨mid, hmid⟩ := hat.above
  have hfr : ((T.setVm vm₁).setTop g).frames = (.java g :: mid) ++ below := by rw [State.frames_setTop' g hat.top, hmid]; rfl
  obtain ⟨o, s₂, hsteps, -, hend, hq⟩ := Steps.callFree hM p Y₁.admits Y₁.cas Y₁.clock (acts := []) hfr happ hPc trivial
  have hq' : zw_Q D dA B r h' As.toArray ((T.setVm vm₁).calling g mk As.toArray) o s₂ := hq
  obtain ⟨rfl, hG, hWm, hF, L, hsm, hL⟩ := hq'
  have hWm' : (T.setVm vm₁).WarmedH s₂.vm := hWm
  rw [State.frames_setTop' g hat.top] at hend
  obtain ⟨g₀, hg0⟩ := Option.isSome_iff_exists.mp hat.top
  obtain ⟨rr, hr⟩ := State.topJava?_eq_some.mp hg0
  have hr' : (zx_to (T.setVm vm₁) s₂).frames = .java g₀ :: rr := hr
  obtain ⟨Y', e3⟩ := zx_stand Y₁ hWm' hsm
  obtain ⟨c₂, i₂, len₂, hc₂, hd₂, hf₂⟩ := hend
  have hcc : c₂ = c := by
    have h1 : s₂.code? g.method = (T.setVm vm₁).code? g.method := by
      rw [State.code?_eq, State.code?_eq, hWm'.alike.method?]
    exact Option.some.inj (hc₂.symm.trans (h1.trans hat.code))
  subst hcc
  have hlen2 : len₂ = 3 := by rw [hdg'] at hd₂; cases hd₂; rfl
  subst hlen2
  have hs₂ : s₂ = (zx_to (T.setVm vm₁) s₂).setTop { g with pc := g.pc + 3, stack := r.toList ++ g.stack } := by
    refine e3.trans ?_
    rw [hf₂, State.calling_eq hat.top, State.setFrames_setFrames, State.setTop_of_frames _ hr', hr]
    rfl
  obtain ⟨t, a1, b1⟩ := kk _ _ (zx_in hU hI hG hF hL) _ rfl Y'
  refine ⟨t, hstep₁ _ fun acts => ?_, b1⟩
  rw [doInvoke_state]
  subst hg
  rw [hs₂] at hsteps
  exact hsteps.trans a1
end ZWC
def zw_k {α β : Type} (r : (α ⊕ String) × z_H) (k : α → z_H → Option β) (x : String → z_H → Option β) : Option β := match r.1 with
  | .inl v => k v r.2
  | .inr E => x E r.2
theorem zw_kl {α β : Type} {v : α} {h : z_H} {k : α → z_H → Option β} {x : String → z_H → Option β} {y : β} (e : zw_k (.inl v, h) k x = some y) : k v h = some y := e
theorem zw_kr {α β : Type} {E : String} {h : z_H} {k : α → z_H → Option β} {x : String → z_H → Option β} {y : β} (e : zw_k (.inr E, h) k x = some y) : x E h = some y := e
