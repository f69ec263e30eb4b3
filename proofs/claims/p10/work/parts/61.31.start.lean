/-! the law's entry: the words that are carried -/
theorem z_isRef {C n d : String} {A : Nat → Prop} {s : State} {args : Array Value} (h : va_Zq C n d A s s.heap) : (Cond.isRef (.static C n d)).before args s = true := by
  have key : ∀ v : Value, va_Z C n d v A s s.heap → (v = .null ∨ ∃ t, v = .ref t) → (Cond.isRef (.static C n d)).before args s = true := by
    intro v hv hr
    obtain ⟨cf, kf, fi, f, a, cell, h1, h2, h3, h4, h5, h6, h7, -⟩ := hv
    have he : (Term.static C n d).eval args s none [] s = some v := by
      simp [Term.eval, State.fieldNamed?, h1, h2, h4, h5, h6, h7]
    simp only [Cond.before, Cond.holds, Cond.value, he]
    rcases hr with rfl | ⟨t, rfl⟩ <;> rfl
  rcases h with h | ⟨t, h⟩
  · exact key _ h (Or.inl rfl)
  · exact key _ h (Or.inr ⟨t, rfl⟩)
theorem z_lays {C n d : String} {s U : State} {a a' : Array Value} (h : (Cond.laysStatic C n d).before a s = true) (hv : s.vm.Alike U.vm) (hH : ∀ q : Nat, q < s.heap.size → U.heap[q]? = s.heap[q]?) : (Cond.laysStatic C n d).before a' U = true := by
  obtain ⟨c, k, i, f, q, cell, h1, h2, h3, h4, h5, h6, h7, h8, h9⟩ := Cond.laysStatic_spec h
  obtain ⟨k', hi', he⟩ := State.fieldFound?_setVm hv h2
  exact Cond.laysStatic_of (by rw [hv.findClass]; exact h1) hi' h3 (by rw [he]; exact h4) (by rw [hH q (Array.getElem?_eq_some_iff.mp h5).1]; exact h5) h6 h7 h8 (by rw [he]; exact h9)
theorem z_cast1 {C T : String} {s U : State} {a a' : Array Value} (h : (Cond.castable C T).before a s = true) (hv : s.vm.Alike U.vm) : (Cond.castable C T).before a' U = true := va_tabs rfl (rfl : (s.setVm U.vm).vm = U.vm) (by rw [Cond.castable_setVm hv]; exact h)
theorem z_decl1 {x : MethodName} {s U : State} {a a' : Array Value} (h : (Cond.declares x).before a s = true) (hv : s.vm.Alike U.vm) : (Cond.declares x).before a' U = true := va_tabs rfl (rfl : (s.setVm U.vm).vm = U.vm) (by rw [Cond.declares_setVm hv]; exact h)
theorem z_ncast {C T : String} {s U : State} {a a' : Array Value} (h : (Cond.not (.castable C T)).before a s = true) (hv : s.vm.Alike U.vm) : (Cond.not (.castable C T)).before a' U = true := by
  simp only [Cond.before, Cond.holds, Cond.value, hv.findClass, hv.assignable] at h ⊢
  exact h
set_option maxRecDepth 100000 in
set_option maxHeartbeats 4000000 in
theorem z_St_start {s : State} {a : Array Value} (hts : ∀ w ∈ lw_tbl, w.before a s = true) (hgv : (Jvm.Cond.and given_1 narrow_1).before a s = true) : z_St s.heap.size s s.heap := by
  have hs := flat_of_before _ hgv
  intro U a' hv hH
  have hA : ∀ q : Nat, q < s.heap.size → ¬ (fun q => s.heap.size ≤ q) q := fun q hq => Nat.not_le.mpr hq
  have hini : (Cond.initialized Bundle.tN).before a s = true := hts _ (List.mem_of_getElem? (i := 133) rfl)
  have lU : (Cond.laysStatic Bundle.tN "UNASSIGNED_STACK" Bundle.steD).before a s = true := hts _ (List.mem_of_getElem? (i := 626) rfl)
  have lN : (Cond.laysStatic Bundle.tN "SUPPRESSED_SENTINEL" Bundle.listD).before a s = true := hts _ (List.mem_of_getElem? (i := 628) rfl)
  have iU : (Cond.isRef (.static Bundle.tN "UNASSIGNED_STACK" Bundle.steD)).before a s = true := hs _ (by decide +kernel)
  have iN : (Cond.isRef (.static Bundle.tN "SUPPRESSED_SENTINEL" Bundle.listD)).before a s = true := hs _ (by decide +kernel)
  have zU := (va_Zq.moved hv (va_Zqof (A := fun q => s.heap.size ≤ q) lU hini iU hA)).kept (H1 := U.heap) (fun q h1 _ => hH q h1)
  have zN := (va_Zq.moved hv (va_Zqof (A := fun q => s.heap.size ≤ q) lN hini iN hA)).kept (H1 := U.heap) (fun q h1 _ => hH q h1)
  simp only [z_bad, List.forall_mem_cons, List.not_mem_nil, false_implies, implies_true, and_true]
  refine ⟨z_isRef zU, z_isRef zN, z_lays lU hv hH, z_lays lN hv hH, z_decl1 (hts _ (List.mem_of_getElem? (i := 602) rfl)) hv, z_decl1 (hts _ (List.mem_of_getElem? (i := 604) rfl)) hv, z_decl1 (hts _ (List.mem_of_getElem? (i := 606) rfl)) hv, z_cast1 (hts _ (List.mem_of_getElem? (i := 601) rfl)) hv, z_cast1 (hts _ (List.mem_of_getElem? (i := 672) rfl)) hv, z_cast1 (hts _ (List.mem_of_getElem? (i := 969) rfl)) hv, z_cast1 (hts _ (List.mem_of_getElem? (i := 989) rfl)) hv, z_ncast (hs _ (by decide +kernel)) hv, z_ncast (hs _ (by decide +kernel)) hv, z_ncast (hs _ (by decide +kernel)) hv, z_ncast (hs _ (by decide +kernel)) hv, z_ncast (hs _ (by decide +kernel)) hv, z_ncast (hs _ (by decide +kernel)) hv, z_ncast (hs _ (by decide +kernel)) hv, z_ncast (hs _ (by decide +kernel)) hv, z_ncast (hs _ (by decide +kernel)) hv, z_ncast (hs _ (by decide +kernel)) hv, z_ncast (hs _ (by decide +kernel)) hv, z_ncast (hs _ (by decide +kernel)) hv⟩
