/-! constructors: from a heap of n cells to one of n + mc -/
def zn_F (U : State) : Prop := (∀ q ∈ z_nest, va_Nw (.methodLinkNest q.1 q.2.1 q.2.2.1 q.2.2.2) U) ∧ va_AO "StreamForge$Row" U ∧ va_AO "StreamForge$Command" U
theorem zn_F.warm {s U : State} (hW : s.WarmedH U.vm) (h : zn_F s) : zn_F U := ⟨fun q hq => va_Nw.warmM hW (h.1 q hq), va_AO.moved hW.alike h.2.1, va_AO.moved hW.alike h.2.2⟩
def zn_P (D : va_G) (dA : Nat → ClassId) (B : Nat) (av : List Value) (h : z_H) (n : Nat) : Array Value → State → Prop := fun v U => z_P D dA B av h v U ∧ U.heap.size = n ∧ zn_F U
def zn_Q (D : va_G) (dA : Nat → ClassId) (B : Nat) (h' : z_H) (n' : Nat) : Array Value → State → Outcome → State → Prop := fun _ st oc t => oc = .returned none ∧ z_G D dA B h' t ∧ va_F (fun q => B ≤ q) st t ∧ t.heap.size = n'
abbrev zn_rm (fr lo mc ms : Nat) : Room := { frames := fr, cells := mc, slots := ms, locals := lo }
def zn_Met (l : Launch) (y : MethodName) (cc : ByteArray) (nL : Nat) (fr lo mc ms : Nat) (D : va_G) (dA : Nat → ClassId) (B : Nat) (av : List Value) (h : z_H) (n : Nat) (h' : z_H) : Prop :=
  Met l y (z_ws y cc nL none) (zn_rm fr lo mc ms) (zn_P D dA B av h n) (zn_Q D dA B h' (n + mc)) mc ms (fun q => B ≤ q)
theorem zn_blind {D : va_G} {dA : Nat → ClassId} {B n : Nat} {av : List Value} {h : z_H} : FrameBlind (zn_P D dA B av h n) := by
  intro a U g mk hq
  exact ⟨z_G.blind a U g mk hq.1, hq.2.1, fun q hq9 => va_Nw.same (u := U) rfl rfl (hq.2.2.1 q hq9), va_AO.moved (u := U) (Vm.Alike.refl U.vm) hq.2.2.2.1, va_AO.moved (u := U) (Vm.Alike.refl U.vm) hq.2.2.2.2⟩
section ZN
variable {p : Program} {l : Launch} {e : Env} {R : Room} {s : State} {m : MethodId} {args : Array Value} {below : List Frame} {meth : Method} {c : Code} {H : Heap} {locs : List Loc} {cells slots : Nat} {Q : State → Prop}
variable {cc cy : ByteArray} {pc nL ny index n k fr lo mc ms : Nat} {ret ry : Option FieldType} {ls : Array Slot} {rest st0 : List Value} {Ts : List Cond} {own host : String} {D : va_G} {dA : Nat → ClassId} {B b a : Nat} {h h' : z_H} {y : MethodName} {As av : List Value}
theorem zn_of (hy : plainName y.cls = true) (hlen : (lg_sl av).length ≤ ny)
    (body : ∀ (p : Program) (e : Env) (s : State) (m : MethodId) (below : List Frame) (meth : Method) (c : Code) (ls : Array Slot), z_X p s m av.toArray meth c cy ny none (z_ws y cy ny none) y.cls D dA B → meth.name = y.name → zn_F s → s.heap.size = n → z_I D dA B h s.heap s.heap [] → lv_has ls ny (lv_args 0 av) →
      W p l e (zn_rm fr lo mc ms) s m av.toArray below meth c s.heap [] 0 0 (MQ below (zn_Q D dA B h' (n + mc)) av.toArray s mc ms (fun q => B ≤ q)) (F0 m 0 ls [])) : zn_Met l y cy ny fr lo mc ms D dA B av h n h' := by
  refine Met.ofW (cc := cy) (maxL := ny) (ret := none) hy rfl ?_
  intro p e s m args below meth c s₁ Bd hml hv
  obtain ⟨⟨rfl, hV, hK, hB⟩, hn, hF⟩ := hv
  have hl := lv_entry av (n := ny) hlen
  rw [lg_entry_eq]
  exact body p e s m below meth c _ ⟨⟨Bd.exec, Bd.bytes, hml, findClass_of_methodNamed Bd.named, atoms_spec (ws := z_ws y cy ny none) Bd.pre⟩, fun w hw => List.mem_cons_of_mem _ hw, hK, hB, Bd.notSynchronized, Bd.returns⟩ (name_of_methodNamed Bd.named Bd.method).1 hF hn ⟨hV, va_S.rf⟩ hl
theorem zn_vret (X : z_X p s m args meth c cc nL none Ts own D dA B) (hI : z_I D dA B h s.heap H locs) (hn : H.size = k) (hdg : decode cc pc = .ok (.return_, 1)) : W p l e R s m args below meth c H locs cells slots (MQ below (zn_Q D dA B h k) args s cells slots (fun q => B ≤ q)) (F0 m pc ls []) :=
  W.vret (z_hx X) (z_hb X) X.2.2.2.2.2 (fun t ht hW => by
    obtain ⟨q1, q2, q3⟩ := z_end (r := none) X hI t ht hW
    exact ⟨q1, q2, q3, by rw [ht]; exact hn⟩) hI.2.2.2 hdg X.2.2.2.2.1
/-- a final field, in the constructor of its class -/
theorem zn_putF (X : z_X p s m args meth c cc nL ret Ts own D dA B) (hname : meth.name = "<init>") (hI : z_I D dA B h s.heap H locs) {ci k N index : Nat} {C : String} {T : u_T} {ty0 : Nat → FieldType} {v : Value} {h1 : z_H} (hv : sF h a ci k v = some h1) (hin : ∀ w ∈ u_ws C T N, w ∈ zT) (hty : ∀ k, k < N → parseFieldDescriptor (T k).2.2.1 = some (ty0 k)) (hnm : ∀ a, a < N → ∀ b, b < N → a ≠ b → (T a).2.1 ≠ (T b).2.1) (hc : zcl[ci]? = some (C, T, N)) (hk : k < N) (hl : Cond.fieldLink own index (T k).1 (T k).2.1 (T k).2.2.1 ∈ zT) (hfin : (T k).2.2.2 = true) (hdecl : (T k).1 = own) (hn : narrow (ty0 k) v = v) (hfit : fits (ty0 k) v = true) (hdg : decode cc pc = .ok (.putfield index, 3))
    (kk : ∀ (H1 : Heap) (locs1 : List Loc), z_I D dA B h1 s.heap H1 locs1 → W p l e R s m args below meth c H1 locs1 cells slots Q (F0 m (pc + 3) ls rest)) : W p l e R s m args below meth c H locs cells slots Q (F0 m pc ls (v :: .ref a :: rest)) := by
  obtain ⟨fs, he, hkl, rfl⟩ := sF_s hv
  obtain ⟨ws, q0, hP, hD, hS, hq, hu⟩ := hI.rd he
  exact va_putF (z_hx X) (z_hb X) (Ts := Ts) X.1.2.2.2.2 (fun w hw => X.2.1 w (hin w hw)) ty0 hty hnm X.1.2.2.2.1 X.2.2.1 hP hD hS q0 hq hc k hk (z_w X hl) (fun _ h9 => h9) hfin hname hdecl (hty k hk) hn hfit hkl hdg (fun H1 l1 p1 d1 s1 => kk H1 l1 (hu (.inr (ci, fs.set k v)) H1 l1 p1 d1 s1))
/-- the heap's size, out of the room that was used and the last cell that was made -/
theorem z_size {g : JFrame} (hI : z_I D dA B h s.heap H locs) (hn : n = s.heap.size + cells) (hlast : n = s.heap.size ∨ (h (n - 1)).isSome = true) (kk : H.size = n → W p l e R s m args below meth c H locs cells slots Q g) : W p l e R s m args below meth c H locs cells slots Q g := by
  intro T hT Y
  have h1 := Y.heapSize
  rw [hT] at h1
  have h2 := hI.2.1
  refine kk ?_ T hT Y
  rcases hlast with h3 | h3
  · omega
  · obtain ⟨x, hx⟩ := Option.isSome_iff_exists.mp h3
    obtain ⟨ws, q0, hP, -, -, hq, -⟩ := hI.rd hx
    have h4 : n - 1 < H.size := (hP q0 _ hq).lt
    omega
theorem z_anew (X : z_X p s m args meth c cc nL ret Ts own D dA B) (hI : z_I D dA B h s.heap H locs) (hn : H.size = n) {t N : Nat} {C : String} {v : Int32} (ht : (z_ty dA)[t]? = some (dA t, .object C)) (w1 : Cond.classLink own index C ∈ zT) (hAO : va_AO C s) (hk : ¬ v < 0) (hN : v.toNatClampNeg = N) (hby : N * 4 ≤ 536870912)
    (hcs : cells + 1 ≤ R.cells ∧ slots + N ≤ R.slots) (hdg : decode cc pc = .ok (.anewarray index, 3))
    (kk : ∀ H1 : Heap, z_I D dA B (z_up h n (.inl (t, N, .inr (.inr (.inr (.inr (fun _ => none))))))) s.heap H1 locs → H1.size = n + 1 → W p l e R s m args below meth c H1 locs (cells + 1) (slots + N) Q (F0 m (pc + 3) ls (.ref n :: rest))) : W p l e R s m args below meth c H locs cells slots Q (F0 m pc ls (.int v :: rest)) := by
  subst hN
  refine W.anew (z_hx X) (z_hb X) X.1.2.2.2.1 (z_w X w1) (va_AO.use hAO) rfl hdg rfl hk hby hcs.1 hcs.2 fun cA kA comp f1 f2 f3 f4 => ?_
  have hra := (X.2.2.1.2 t _ ht).2
  obtain ⟨kB, comp2, b1, b2, b3, b4⟩ : ∃ (kA : Class) (comp : ClassId), s.vm.classes[dA t]? = some kA ∧ kA.kind = .array comp (.object C) ∧ s.vm.findClass C = some comp ∧ s.vm.findClass ("[" ++ (FieldType.object C).toString) = some (dA t) := hra
  have hcA : cA = dA t := Option.some.inj (f1.symm.trans b4)
  subst hcA
  generalize hH1 : H.push ({ cls := dA t, slots := Array.replicate v.toNatClampNeg .null, vm := .none } : Cell) = H1
  subst hn
  have z1 : H1.size = H.size + 1 := by rw [← hH1, Array.size_push]
  have e1 : H1[H.size]? = some (arrV (dA t) v.toNatClampNeg (fun _ => .null)) := by rw [← hH1, Array.getElem?_push_size, ← arrV_new]
  have o1 : ∀ q : Nat, q < H.size → H1[q]? = H[q]? := fun q hq => by rw [← hH1, Array.getElem?_push, if_neg (Nat.ne_of_lt hq)]
  exact kk H1 (z_push hI X.2.2.2.1 rfl (show H1[H.size]? = some (vp_cell (dA t) _) from e1) z1 o1) z1
end ZN
