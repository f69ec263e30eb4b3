/-! making: the new cell's address is the heap's size -/
section ZA
variable {p : Program} {l : Launch} {e : Env} {R : Room} {s : State} {m : MethodId} {args : Array Value} {below : List Frame} {meth : Method} {c : Code} {H : Heap} {locs : List Loc} {cells slots : Nat} {Q : State → Prop}
variable {cc cy : ByteArray} {pc nL ny index n fr lo : Nat} {ret ry : Option FieldType} {ls : Array Slot} {rest st0 : List Value} {Ts : List Cond} {own : String} {D : va_G} {dA : Nat → ClassId} {B b a : Nat} {h h' : z_H} {y : MethodName} {As : List Value} {H0 : Heap}
theorem z_push {H1 : Heap} {x : z_E} (hI : z_I D dA B h H0 H locs) (hB : B ≤ H0.size) (hn : H.size = n) (hc : va_at D zcl (n, z_cv dA (some x)) H1) (hz : H1.size = n + 1) (ho : ∀ q, q < n → H1[q]? = H[q]?) : z_I D dA B (z_up h n x) H0 H1 locs := by
  subst hn
  obtain ⟨⟨L, hP, hD, hL⟩, hS1, hS2, hS3⟩ := hI
  have hfr : H.size ∉ L := va_pl_fresh (X := []) hP (Nat.le_refl _)
  have hw : z_wl dA L h ++ [(H.size, z_cv dA (some x))] = z_wl dA (L ++ [H.size]) (z_up h H.size x) := by
    refine (va_pl_push (f := fun a => z_cv dA (h a)) (e := z_cv dA (some x)) hfr).trans (va_pl_congr (fun q => ?_))
    unfold va_up z_up
    by_cases hq : q = H.size
    · simp [hq]
    · simp [hq]
  have hP1 : va_P D zcl (z_wl dA L h ++ [(H.size, z_cv dA (some x))]) H1 := (hP.kept (fun k q hk => ho q.1 ((hP k q hk).lt))).app (fun k q hk => by
    have hk1 : k < 1 := (List.getElem?_eq_some_iff.mp hk).1
    rw [show k = 0 by omega] at hk
    cases hk
    exact hc)
  have hD1 := hD.push (e := z_cv dA (some x)) hP rfl (Nat.le_trans hB hS1)
  rw [hw] at hP1 hD1
  refine ⟨⟨L ++ [H.size], hP1, hD1, fun q hq => ?_⟩, by omega, fun q hq hn => (ho q (Nat.lt_of_lt_of_le hq hS1)).trans (hS2 q hq hn), hS3⟩
  unfold z_up at hq
  by_cases h9 : q = H.size
  · rw [h9]; simp
  · rw [if_neg h9] at hq
    exact List.mem_append_left _ (hL q hq)
theorem z_new (X : z_X p s m args meth c cc nL ret Ts own D dA B) (hI : z_I D dA B h s.heap H locs) (hn : H.size = n) {ci N : Nat} {C : String} {T : u_T} {ty0 : Nat → FieldType} {fs : List Value} (hin : ∀ w ∈ u_ws C T N, w ∈ zT) (hty : ∀ k, k < N → parseFieldDescriptor (T k).2.2.1 = some (ty0 k)) (hc : zcl[ci]? = some (C, T, N)) (w1 : Cond.classLink own index C ∈ zT) (w2 : Cond.instantiable C N ∈ zT) (w3 : Cond.initialized C ∈ zT) (hfs : ∀ j, j < N → defaultValue (ty0 j) = vp_V fs j)
    (hcs : cells + 1 ≤ R.cells ∧ slots + N ≤ R.slots) (hdg : decode cc pc = .ok (.new index, 3))
    (kk : ∀ H1 : Heap, z_I D dA B (z_up h n (.inr (ci, fs))) s.heap H1 locs → H1.size = n + 1 → W p l e R s m args below meth c H1 locs (cells + 1) (slots + N) Q (F0 m (pc + 3) ls (.ref n :: rest))) : W p l e R s m args below meth c H locs cells slots Q (F0 m pc ls rest) := by
  have hKn := X.2.2.1.1 ci _ hc
  refine W.newcK (z_hx X) (z_hb X) X.1.2.2.2.1 (z_w X w1) (z_w X w2) (z_w X w3) rfl hdg hcs.1 hcs.2 hKn.2.1 hn fun H1 kC hkC e1 z1 o1 => ?_
  exact kk H1 (z_push hI X.2.2.2.1 hn ⟨_, hc, (u_born ty0 (fun w hw => z_w X hw) hin hKn hkC e1 hty).to hfs⟩ z1 o1) z1
theorem z_newa (X : z_X p s m args meth c cc nL ret Ts own D dA B) (hI : z_I D dA B h s.heap H locs) (hn : H.size = n) {at9 : ArrayType} {t N : Nat} {ty : FieldType} {a0 : vp_A} {k : Int32} (hty : newarray.typeOf at9 = ty) (ht : (z_ty dA)[t]? = some (dA t, ty)) (hob : ∀ C, ty ≠ .object C) (w1 : Cond.arrayClass ty ∈ zT) (ha : ∀ cA : ClassId, vp_cell cA a0 = arrV cA N (fun _ => defaultValue ty)) (hk : ¬ k < 0) (hN : k.toNatClampNeg = N) (hby : N * componentBytes ty ≤ 536870912)
    (hcs : cells + 1 ≤ R.cells ∧ slots + N ≤ R.slots) (hdg : decode cc pc = .ok (.newarray at9, 2))
    (kk : ∀ H1 : Heap, z_I D dA B (z_up h n (.inl (t, a0))) s.heap H1 locs → H1.size = n + 1 → W p l e R s m args below meth c H1 locs (cells + 1) (slots + N) Q (F0 m (pc + 2) ls (.ref n :: rest))) : W p l e R s m args below meth c H locs cells slots Q (F0 m pc ls (.int k :: rest)) := by
  subst hty
  refine va_newaK (z_hx X) (z_hb X) (z_w X w1) rfl hdg rfl hk hN hby hcs.1 hcs.2 hn fun H1 cA e1 z1 o1 hAr hNm => ?_
  have hra : s.vm.findClass ("[" ++ (newarray.typeOf at9).toString) = some (dA t) := by
    have h9 := (X.2.2.1.2 t _ ht).2
    unfold va_RA at h9
    split at h9
    · next C hC => exact absurd hC (hob C)
    · exact h9
  have hcA : cA = dA t := Option.some.inj (hNm.symm.trans hra)
  subst hcA
  exact kk H1 (z_push hI X.2.2.2.1 hn (show H1[n]? = some (vp_cell (dA t) a0) by rw [ha]; exact e1) z1 o1) z1
end ZA
