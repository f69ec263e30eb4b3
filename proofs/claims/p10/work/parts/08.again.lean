section ZY
variable {p : Program} {l : Launch} {e : Env} {R : Room} {s : State} {m : MethodId} {args : Array Value} {below : List Frame} {meth : Method} {c : Code} {locs : List Loc} {cells slots : Nat}
/-- the point T seen as a beginning: the same invocation, with the room that is left -/
theorem z_again {T : State} (Y : Stand p l e R s m args below meth c T locs cells slots) {Z : Room} (h1 : Z.frames ≤ R.frames) (h2 : Z.locals ≤ R.locals) (h3 : cells + Z.cells ≤ R.cells) (h4 : slots + Z.slots ≤ R.slots) :
    Stand p l e Z ((T.setVm s.vm).setFrames (.invoking m args :: below)) m args below meth c T [] 0 0 := by
  have ht : (T.setVm s.vm).topJava?.isSome := Y.here.top
  have hfr : ((T.setVm s.vm).setFrames (.invoking m args :: below)).frames = .invoking m args :: below := State.frames_setFrames _ (State.cur_lt_of_top ht)
  have hroom : ((T.setVm s.vm).setFrames (.invoking m args :: below)).hasRoom e.platform Z = true := by
    have r0 := Y.room
    have hu : ((T.setVm s.vm).setFrames (.invoking m args :: below)).localsInUse = s.localsInUse :=
      (State.localsInUse_invoking hfr (meth := meth) (c := c) Y.method Y.code).trans (State.localsInUse_invoking Y.frames Y.method Y.code).symm
    have e1 : e.platform.stackLimits (T.setVm s.vm).me = e.platform.stackLimits s.me := Y.limits
    have e2 : (T.setVm s.vm).me.stackBytes = s.me.stackBytes := Y.bytes
    have z1 := Y.heapSize
    have z2 := Y.used
    simp only [State.hasRoom, Bool.and_eq_true, decide_eq_true_eq] at r0 ⊢
    rw [hfr, hu, State.stackLimits_setFrames, State.stackBytes_setFrames, e1, e2]
    rw [Y.frames] at r0
    simp only [List.length_cons] at r0 ⊢
    obtain ⟨⟨⟨⟨a1, a2, a3, a4, a5, a6⟩, a7⟩, a8⟩, a9⟩ := r0
    have b7 : ((T.setVm s.vm).setFrames (.invoking m args :: below)).heap.size = T.heap.size := rfl
    have b8 : ((T.setVm s.vm).setFrames (.invoking m args :: below)).slotsUsed = T.slotsUsed := rfl
    exact ⟨⟨⟨⟨by omega, by omega, by omega, by omega, by omega, a6⟩, by omega⟩, by omega⟩, Y.book⟩
  have hsame : ((T.setVm s.vm).setFrames (.invoking m args :: below)).sameButNew (T.setVm ((T.setVm s.vm).setFrames (.invoking m args :: below)).vm) [] 0 0 := by
    obtain ⟨g, hg⟩ := Option.isSome_iff_exists.mp ht
    obtain ⟨r, hr⟩ := State.topJava?_eq_some.mp hg
    obtain ⟨t, hth, -⟩ := State.frames_cons hr
    have hnil : T.heap.toList.drop T.heap.size = [] := List.drop_eq_nil_of_le (Nat.le_of_eq Array.length_toList)
    refine ⟨?_, Nat.le_refl _, Nat.le_refl _, ?_, ?_, fun a c9 h9 => ⟨c9, h9, rfl, rfl, fun _ _ => rfl⟩⟩
    · show T.setVm s.vm = { ((T.setVm s.vm).setFrames (.invoking m args :: below)).setFrames (T.setVm s.vm).frames with heap := T.heap, slotsUsed := T.slotsUsed }
      rw [State.setFrames_setFrames, State.setFrames_self hth]
      rfl
    · show T.slotsUsed = T.slotsUsed + ((T.heap.toList.drop T.heap.size).map (·.slots.size)).sum
      rw [hnil]; rfl
    · show ((T.heap.toList.drop T.heap.size).map (·.slots.size)).sum ≤ 0
      rw [hnil]; exact Nat.le_refl _
  exact ⟨Y.admits, Y.cas, Y.clock, hfr, hroom, Y.hears, Y.method, Y.code, Y.here, Y.tail, Y.warmed, by rw [State.stackLimits_setFrames]; rfl, by rw [State.stackBytes_setFrames]; rfl, hsame⟩
/-- what lay there lies there still, where nothing was written -/
theorem z_lies {U : State} {k n : Nat} (h : s.sameButNew ({ U with vm := s.vm } : State) [] k n) : s.heap.size ≤ U.heap.size ∧ ∀ q : Nat, q < s.heap.size → U.heap[q]? = s.heap[q]? := by
  obtain ⟨-, h2, -, -, -, h6⟩ := h
  refine ⟨h2, fun q hq => ?_⟩
  obtain ⟨x, e1, e2, -, e4⟩ := h6 q _ (Array.getElem?_eq_getElem hq)
  have es : x.slots = (s.heap[q]).slots := Array.ext_getElem? fun i => e4 i (fun hm => nomatch hm)
  have ex : x = s.heap[q] := by
    rw [es] at e2
    exact e2
  rw [Array.getElem?_eq_getElem hq, ← ex]
  exact e1
theorem z_V.kept {D : va_G} {dA : Nat → ClassId} {B : Nat} {h : z_H} {H H1 : Heap} (hV : z_V D dA B h H) (hq : ∀ q : Nat, q < H.size → H1[q]? = H[q]?) : z_V D dA B h H1 := by
  obtain ⟨L, hP, hD, hL⟩ := hV
  exact ⟨L, fun k q hk => (hP k q hk).kept (hq _ (hP k q hk).lt), hD, hL⟩
end ZY
