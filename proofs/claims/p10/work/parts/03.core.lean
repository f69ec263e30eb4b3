/-! abstract heaps: an address holds an array (its type's number, its contents) or an object (its class's number, its fields) -/
abbrev z_E : Type := (Nat × vp_A) ⊕ (Nat × List Value)
abbrev z_H : Type := Nat → Option z_E
def z_cv (dA : Nat → ClassId) (e : Option z_E) : va_E := match e with
  | some (.inl a) => .inl (dA a.1, a.2)
  | some (.inr o) => .inr o
  | none => .inl (0, (0, .inl fun _ => 0))
def z_up (h : z_H) (a : Nat) (e : z_E) : z_H := fun q => if q = a then some e else h q
def z_b {α β : Type} (o : Option α) (f : α → Option β) : Option β := match o with
  | some x => f x
  | none => none
theorem z_bs {α β : Type} {o : Option α} {f : α → Option β} {r : β} (h : z_b o f = some r) : ∃ x, o = some x ∧ f x = some r := by
  cases o with
  | none => cases h
  | some x => exact ⟨x, rfl, h⟩
theorem z_b_some {α β : Type} (x : α) (f : α → Option β) : z_b (some x) f = f x := rfl
def zB (x : Int32) : Option Int32 := if x = 0 ∨ x = 1 then some x else none
theorem zB_s {x y : Int32} (h : zB x = some y) : x = y ∧ (x = 0 ∨ x = 1) := by
  unfold zB at h
  split at h
  · next q => exact ⟨Option.some.inj h, q⟩
  · cases h
/-- fields -/
def gF (h : z_H) (a ci k : Nat) : Option Value := match h a with
  | some (.inr o) => if o.1 = ci then o.2[k]? else none
  | _ => none
def gI (h : z_H) (a ci k : Nat) : Option Int32 := match gF h a ci k with
  | some (.int x) => some x
  | _ => none
def gR (h : z_H) (a ci k : Nat) : Option Nat := match gF h a ci k with
  | some (.ref x) => some x
  | _ => none
def sF (h : z_H) (a ci k : Nat) (v : Value) : Option z_H := match h a with
  | some (.inr o) => if o.1 = ci ∧ k < o.2.length then some (z_up h a (.inr (ci, o.2.set k v))) else none
  | _ => none
theorem gF_s {h : z_H} {a ci k : Nat} {v : Value} (e : gF h a ci k = some v) : ∃ fs, h a = some (.inr (ci, fs)) ∧ fs[k]? = some v := by
  unfold gF at e
  split at e
  · next o ho =>
    split at e
    · next q => exact ⟨o.2, by rw [ho, ← q], e⟩
    · cases e
  · cases e
theorem gI_s {h : z_H} {a ci k : Nat} {x : Int32} (e : gI h a ci k = some x) : ∃ fs, h a = some (.inr (ci, fs)) ∧ fs[k]? = some (.int x) := by
  unfold gI at e
  split at e
  · next y hy => cases e; exact gF_s hy
  · cases e
theorem gR_s {h : z_H} {a ci k : Nat} {x : Nat} (e : gR h a ci k = some x) : ∃ fs, h a = some (.inr (ci, fs)) ∧ fs[k]? = some (.ref x) := by
  unfold gR at e
  split at e
  · next y hy => cases e; exact gF_s hy
  · cases e
theorem sF_s {h h' : z_H} {a ci k : Nat} {v : Value} (e : sF h a ci k v = some h') : ∃ fs, h a = some (.inr (ci, fs)) ∧ k < fs.length ∧ h' = z_up h a (.inr (ci, fs.set k v)) := by
  unfold sF at e
  split at e
  · next o ho =>
    split at e
    · next q => cases e; exact ⟨o.2, by rw [ho, ← q.1], q.2, rfl⟩
    · cases e
  · cases e
/-- arrays -/
def aN (h : z_H) (a : Nat) : Option Int32 := match h a with
  | some (.inl x) => if x.1 < 6 then some (Int32.ofNat x.2.1) else none
  | _ => none
def aI (h : z_H) (a t : Nat) (i : Int32) : Option Int32 := match h a with
  | some (.inl (t', n, .inl f)) => if t' = t ∧ ¬ (i < 0 ∨ n ≤ i.toNatClampNeg) then some (f i.toNatClampNeg) else none
  | _ => none
def aL (h : z_H) (a : Nat) (i : Int32) : Option Int64 := match h a with
  | some (.inl (t', n, .inr (.inl f))) => if t' = 2 ∧ ¬ (i < 0 ∨ n ≤ i.toNatClampNeg) then some (f i.toNatClampNeg) else none
  | _ => none
def aR (h : z_H) (a t : Nat) (i : Int32) : Option Nat := match h a with
  | some (.inl (t', n, .inr (.inr (.inr (.inr f))))) => if t' = t ∧ ¬ (i < 0 ∨ n ≤ i.toNatClampNeg) then f i.toNatClampNeg else none
  | _ => none
def uI (h : z_H) (a t : Nat) (i x : Int32) : Option z_H := match h a with
  | some (.inl (t', n, .inl f)) => if t' = t ∧ ¬ (i < 0 ∨ n ≤ i.toNatClampNeg) then some (z_up h a (.inl (t, n, .inl (upd f i.toNatClampNeg x)))) else none
  | _ => none
def uL (h : z_H) (a : Nat) (i : Int32) (x : Int64) : Option z_H := match h a with
  | some (.inl (t', n, .inr (.inl f))) => if t' = 2 ∧ ¬ (i < 0 ∨ n ≤ i.toNatClampNeg) then some (z_up h a (.inl (2, n, .inr (.inl (vp_updL f i.toNatClampNeg x))))) else none
  | _ => none
theorem aN_s {h : z_H} {a : Nat} {r : Int32} (e : aN h a = some r) : ∃ x : Nat × vp_A, h a = some (.inl x) ∧ x.1 < 6 ∧ r = Int32.ofNat x.2.1 := by
  unfold aN at e
  split at e
  · next x hx =>
    split at e
    · next q => cases e; exact ⟨x, hx, q, rfl⟩
    · cases e
  · cases e
theorem aI_s {h : z_H} {a t : Nat} {i x : Int32} (e : aI h a t i = some x) : ∃ n f, h a = some (.inl (t, n, .inl f)) ∧ vp_in i n ∧ x = f i.toNatClampNeg := by
  unfold aI at e
  split at e
  · next t' n f hx =>
    split at e
    · next q => cases e; exact ⟨n, f, by rw [hx, q.1], q.2, rfl⟩
    · cases e
  · cases e
theorem aL_s {h : z_H} {a : Nat} {i : Int32} {x : Int64} (e : aL h a i = some x) : ∃ n f, h a = some (.inl (2, n, .inr (.inl f))) ∧ vp_in i n ∧ x = f i.toNatClampNeg := by
  unfold aL at e
  split at e
  · next t' n f hx =>
    split at e
    · next q => cases e; exact ⟨n, f, by rw [hx, q.1], q.2, rfl⟩
    · cases e
  · cases e
theorem aR_s {h : z_H} {a t : Nat} {i : Int32} {x : Nat} (e : aR h a t i = some x) : ∃ n f, h a = some (.inl (t, n, .inr (.inr (.inr (.inr f))))) ∧ vp_in i n ∧ f i.toNatClampNeg = some x := by
  unfold aR at e
  split at e
  · next t' n f hx =>
    split at e
    · next q => exact ⟨n, f, by rw [hx, q.1], q.2, e⟩
    · cases e
  · cases e
theorem uI_s {h h' : z_H} {a t : Nat} {i x : Int32} (e : uI h a t i x = some h') : ∃ n f, h a = some (.inl (t, n, .inl f)) ∧ vp_in i n ∧ h' = z_up h a (.inl (t, n, .inl (upd f i.toNatClampNeg x))) := by
  unfold uI at e
  split at e
  · next t' n f hx =>
    split at e
    · next q => cases e; exact ⟨n, f, by rw [hx, q.1], q.2, rfl⟩
    · cases e
  · cases e
theorem uL_s {h h' : z_H} {a : Nat} {i : Int32} {x : Int64} (e : uL h a i x = some h') : ∃ n f, h a = some (.inl (2, n, .inr (.inl f))) ∧ vp_in i n ∧ h' = z_up h a (.inl (2, n, .inr (.inl (vp_updL f i.toNatClampNeg x)))) := by
  unfold uL at e
  split at e
  · next t' n f hx =>
    split at e
    · next q => cases e; exact ⟨n, f, by rw [hx, q.1], q.2, rfl⟩
    · cases e
  · cases e
/-! the machine's heap holds an abstract one -/
abbrev z_wl (dA : Nat → ClassId) (L : List Nat) (h : z_H) : va_W := va_pl L (fun a => z_cv dA (h a))
def z_V (D : va_G) (dA : Nat → ClassId) (B : Nat) (h : z_H) (H : Heap) : Prop := ∃ L : List Nat, va_P D zcl (z_wl dA L h) H ∧ va_D (fun q => B ≤ q) (z_wl dA L h) ∧ ∀ a : Nat, (h a).isSome = true → a ∈ L
def z_I (D : va_G) (dA : Nat → ClassId) (B : Nat) (h : z_H) (H0 H : Heap) (locs : List Loc) : Prop := z_V D dA B h H ∧ va_S (fun q => B ≤ q) H0 H locs
def z_G (D : va_G) (dA : Nat → ClassId) (B : Nat) (h : z_H) (U : State) : Prop := z_V D dA B h U.heap ∧ va_K D zcl (z_ty dA) U ∧ B ≤ U.heap.size
theorem z_V.rd {D : va_G} {dA : Nat → ClassId} {B : Nat} {h : z_H} {H : Heap} {a : Nat} {e : z_E} (hI : z_V D dA B h H) (he : h a = some e) :
    ∃ (ws : va_W) (q0 : Nat), va_P D zcl ws H ∧ va_D (fun q => B ≤ q) ws ∧ ws[q0]? = some (a, z_cv dA (some e)) ∧ (∀ (e1 : z_E) (H1 : Heap), va_P D zcl (ws.set q0 (a, z_cv dA (some e1))) H1 → va_D (fun q => B ≤ q) (ws.set q0 (a, z_cv dA (some e1))) → z_V D dA B (z_up h a e1) H1) := by
  obtain ⟨L, hP, hD, hL⟩ := hI
  have ha : a ∈ L := hL a (by rw [he]; rfl)
  obtain ⟨q0, hq⟩ := va_pl_get (X := []) (f := fun a => z_cv dA (h a)) ha
  have hq' : (z_wl dA L h)[q0]? = some (a, z_cv dA (some e)) := by
    rw [← he]
    exact hq
  refine ⟨z_wl dA L h, q0, hP, hD, hq', fun e1 H1 p1 d1 => ?_⟩
  have hs : (z_wl dA L h).set q0 (a, z_cv dA (some e1)) = z_wl dA L (z_up h a e1) := by
    have h9 := va_pl_set (A := fun q => B ≤ q) (X := []) (f := fun a => z_cv dA (h a)) (e := z_cv dA (some e1)) hD ha hq
    refine (show (z_wl dA L h).set q0 (a, z_cv dA (some e1)) = va_pl L (va_up (fun a => z_cv dA (h a)) a (z_cv dA (some e1))) from h9).trans ?_
    refine va_pl_congr (fun q => ?_)
    unfold va_up z_up
    by_cases hqa : q = a
    · simp [hqa]
    · simp [hqa]
  rw [hs] at p1 d1
  refine ⟨L, p1, d1, fun q hq9 => ?_⟩
  by_cases hqa : q = a
  · rw [hqa]; exact ha
  · refine hL q ?_
    unfold z_up at hq9
    rw [if_neg hqa] at hq9
    exact hq9
theorem z_I.rd {D : va_G} {dA : Nat → ClassId} {B : Nat} {h : z_H} {H0 H : Heap} {locs : List Loc} {a : Nat} {e : z_E} (hI : z_I D dA B h H0 H locs) (he : h a = some e) :
    ∃ (ws : va_W) (q0 : Nat), va_P D zcl ws H ∧ va_D (fun q => B ≤ q) ws ∧ va_S (fun q => B ≤ q) H0 H locs ∧ ws[q0]? = some (a, z_cv dA (some e)) ∧ (∀ (e1 : z_E) (H1 : Heap) (locs1 : List Loc), va_P D zcl (ws.set q0 (a, z_cv dA (some e1))) H1 → va_D (fun q => B ≤ q) (ws.set q0 (a, z_cv dA (some e1))) → va_S (fun q => B ≤ q) H0 H1 locs1 → z_I D dA B (z_up h a e1) H0 H1 locs1) := by
  obtain ⟨ws, q0, hP, hD, hq, hu⟩ := hI.1.rd he
  exact ⟨ws, q0, hP, hD, hI.2, hq, fun e1 H1 l1 p1 d1 s1 => ⟨hu e1 H1 p1 d1, s1⟩⟩
/-- a method's surroundings -/
def z_ws (y : MethodName) (cc : ByteArray) (n : Nat) (ret : Option FieldType) : List Cond := .code y cc n ret :: zT
def z_X (p : Program) (s : State) (m : MethodId) (args : Array Value) (meth : Method) (c : Code) (cc : ByteArray) (nL : Nat) (ret : Option FieldType) (Ts : List Cond) (own : String) (D : va_G) (dA : Nat → ClassId) (B : Nat) : Prop :=
  CallFix p m c cc nL s args Ts own ∧ (∀ w ∈ zT, w ∈ Ts) ∧ va_K D zcl (z_ty dA) s ∧ B ≤ s.heap.size ∧ meth.locks = false ∧ meth.sig.returnType = ret
section ZC
variable {p : Program} {l : Launch} {e : Env} {R : Room} {s : State} {m : MethodId} {args : Array Value} {below : List Frame} {meth : Method} {c : Code} {H : Heap} {locs : List Loc} {cells slots : Nat} {Q : State → Prop}
variable {cc : ByteArray} {pc nL : Nat} {ret : Option FieldType} {ls : Array Slot} {rest : List Value} {Ts : List Cond} {own : String} {D : va_G} {dA : Nat → ClassId} {B a : Nat} {h : z_H} {H0 : Heap}
theorem z_hx (X : z_X p s m args meth c cc nL ret Ts own D dA B) : p.tables.exec = Jvm.exec := X.1.1
theorem z_hb (X : z_X p s m args meth c cc nL ret Ts own D dA B) : c.code = cc := X.1.2.1
theorem z_w (X : z_X p s m args meth c cc nL ret Ts own D dA B) {w : Cond} (h : w ∈ zT) : w.before args s = true := X.1.2.2.2.2 w (X.2.1 w h)
theorem z_getF (X : z_X p s m args meth c cc nL ret Ts own D dA B) (hI : z_I D dA B h H0 H locs) {ci k N index : Nat} {C : String} {T : u_T} {v : Value} (hv : ∃ fs, h a = some (.inr (ci, fs)) ∧ fs[k]? = some v) (hin : ∀ w ∈ u_ws C T N, w ∈ zT) (hc : zcl[ci]? = some (C, T, N)) (hk : k < N) (hl : Cond.fieldLink own index (T k).1 (T k).2.1 (T k).2.2.1 ∈ zT) (hdg : decode cc pc = .ok (.getfield index, 3))
    (kk : W p l e R s m args below meth c H locs cells slots Q (F0 m (pc + 3) ls (v :: rest))) : W p l e R s m args below meth c H locs cells slots Q (F0 m pc ls (.ref a :: rest)) := by
  obtain ⟨fs, he, hf⟩ := hv
  obtain ⟨ws, q0, hP, hD, hS, hq, -⟩ := hI.rd he
  exact va_get (z_hx X) (z_hb X) (Ts := Ts) X.1.2.2.2.2 (fun w hw => X.2.1 w (hin w hw)) X.1.2.2.2.1 X.2.2.1 hP q0 hq hc k hk (z_w X hl) (fun _ h9 => h9) hf hdg kk
theorem z_putF (X : z_X p s m args meth c cc nL ret Ts own D dA B) (hI : z_I D dA B h H0 H locs) {ci k N index : Nat} {C : String} {T : u_T} {ty0 : Nat → FieldType} {v : Value} {h1 : z_H} (hv : sF h a ci k v = some h1) (hin : ∀ w ∈ u_ws C T N, w ∈ zT) (hty : ∀ k, k < N → parseFieldDescriptor (T k).2.2.1 = some (ty0 k)) (hnm : ∀ a, a < N → ∀ b, b < N → a ≠ b → (T a).2.1 ≠ (T b).2.1) (hc : zcl[ci]? = some (C, T, N)) (hk : k < N) (hl : Cond.fieldLink own index (T k).1 (T k).2.1 (T k).2.2.1 ∈ zT) (hfin : (T k).2.2.2 = false) (hn : narrow (ty0 k) v = v) (hfit : fits (ty0 k) v = true) (hdg : decode cc pc = .ok (.putfield index, 3))
    (kk : ∀ (H1 : Heap) (locs1 : List Loc), z_I D dA B h1 H0 H1 locs1 → W p l e R s m args below meth c H1 locs1 cells slots Q (F0 m (pc + 3) ls rest)) : W p l e R s m args below meth c H locs cells slots Q (F0 m pc ls (v :: .ref a :: rest)) := by
  obtain ⟨fs, he, hkl, rfl⟩ := sF_s hv
  obtain ⟨ws, q0, hP, hD, hS, hq, hu⟩ := hI.rd he
  exact va_put (z_hx X) (z_hb X) (Ts := Ts) X.1.2.2.2.2 (fun w hw => X.2.1 w (hin w hw)) ty0 hty hnm X.1.2.2.2.1 X.2.2.1 hP hD hS q0 hq hc k hk (z_w X hl) (fun _ h9 => h9) hfin (hty k hk) hn hfit hkl hdg (fun H1 l1 p1 d1 s1 => kk H1 l1 (hu (.inr (ci, fs.set k v)) H1 l1 p1 d1 s1))
theorem z_alen (X : z_X p s m args meth c cc nL ret Ts own D dA B) (hI : z_I D dA B h H0 H locs) {x : Int32} (hv : aN h a = some x) (hdg : decode cc pc = .ok (.arraylength, 1))
    (kk : W p l e R s m args below meth c H locs cells slots Q (F0 m (pc + 1) ls (.int x :: rest))) : W p l e R s m args below meth c H locs cells slots Q (F0 m pc ls (.ref a :: rest)) := by
  obtain ⟨⟨t, y⟩, he, ht, rfl⟩ := aN_s hv
  obtain ⟨ws, q0, hP, hD, hS, hq, -⟩ := hI.rd he
  have h6 : ∃ ty, (z_ty dA)[t]? = some (dA t, ty) := by
    have ht : t < 6 := ht
    match t, ht with
    | 0, _ => exact ⟨_, rfl⟩
    | 1, _ => exact ⟨_, rfl⟩
    | 2, _ => exact ⟨_, rfl⟩
    | 3, _ => exact ⟨_, rfl⟩
    | 4, _ => exact ⟨_, rfl⟩
    | 5, _ => exact ⟨_, rfl⟩
  obtain ⟨ty, h7⟩ := h6
  exact va_alen (z_hx X) (z_hb X) X.2.2.1 hP q0 t hq h7 rfl hdg kk
theorem z_iald (X : z_X p s m args meth c cc nL ret Ts own D dA B) (hI : z_I D dA B h H0 H locs) {i x : Int32} (hv : aI h a 0 i = some x) (hdg : decode cc pc = .ok (.iaload, 1))
    (kk : W p l e R s m args below meth c H locs cells slots Q (F0 m (pc + 1) ls (.int x :: rest))) : W p l e R s m args below meth c H locs cells slots Q (F0 m pc ls (.int i :: .ref a :: rest)) := by
  obtain ⟨n, f, he, hin, rfl⟩ := aI_s hv
  obtain ⟨ws, q0, hP, hD, hS, hq, -⟩ := hI.rd he
  exact va_iald (z_hx X) (z_hb X) X.2.2.1 hP q0 0 hq rfl hin hdg kk
theorem z_cald (X : z_X p s m args meth c cc nL ret Ts own D dA B) (hI : z_I D dA B h H0 H locs) {i x : Int32} (hv : aI h a 1 i = some x) (hdg : decode cc pc = .ok (.caload, 1))
    (kk : W p l e R s m args below meth c H locs cells slots Q (F0 m (pc + 1) ls (.int x :: rest))) : W p l e R s m args below meth c H locs cells slots Q (F0 m pc ls (.int i :: .ref a :: rest)) := by
  obtain ⟨n, f, he, hin, rfl⟩ := aI_s hv
  obtain ⟨ws, q0, hP, hD, hS, hq, -⟩ := hI.rd he
  exact va_cald (z_hx X) (z_hb X) X.2.2.1 hP q0 1 hq rfl hin hdg kk
theorem z_zald (X : z_X p s m args meth c cc nL ret Ts own D dA B) (hI : z_I D dA B h H0 H locs) {i x : Int32} (hv : aI h a 3 i = some x) (hdg : decode cc pc = .ok (.baload, 1))
    (kk : W p l e R s m args below meth c H locs cells slots Q (F0 m (pc + 1) ls (.int x :: rest))) : W p l e R s m args below meth c H locs cells slots Q (F0 m pc ls (.int i :: .ref a :: rest)) := by
  obtain ⟨n, f, he, hin, rfl⟩ := aI_s hv
  obtain ⟨ws, q0, hP, hD, hS, hq, -⟩ := hI.rd he
  exact va_zald (z_hx X) (z_hb X) X.2.2.1 hP q0 3 hq rfl hin hdg kk
theorem z_lald (X : z_X p s m args meth c cc nL ret Ts own D dA B) (hI : z_I D dA B h H0 H locs) {i : Int32} {x : Int64} (hv : aL h a i = some x) (hdg : decode cc pc = .ok (.laload, 1))
    (kk : W p l e R s m args below meth c H locs cells slots Q (F0 m (pc + 1) ls (.long x :: rest))) : W p l e R s m args below meth c H locs cells slots Q (F0 m pc ls (.int i :: .ref a :: rest)) := by
  obtain ⟨n, f, he, hin, rfl⟩ := aL_s hv
  obtain ⟨ws, q0, hP, hD, hS, hq, -⟩ := hI.rd he
  exact va_lald (z_hx X) (z_hb X) X.2.2.1 hP q0 2 hq rfl hin hdg kk
theorem z_aald4 (X : z_X p s m args meth c cc nL ret Ts own D dA B) (hI : z_I D dA B h H0 H locs) {i : Int32} {x : Nat} (hv : aR h a 4 i = some x) (hdg : decode cc pc = .ok (.aaload, 1))
    (kk : W p l e R s m args below meth c H locs cells slots Q (F0 m (pc + 1) ls (.ref x :: rest))) : W p l e R s m args below meth c H locs cells slots Q (F0 m pc ls (.int i :: .ref a :: rest)) := by
  obtain ⟨n, f, he, hin, hx⟩ := aR_s hv
  obtain ⟨ws, q0, hP, hD, hS, hq, -⟩ := hI.rd he
  refine va_aldq (z_hx X) (z_hb X) X.2.2.1 hP q0 4 hq rfl hin hdg ?_
  rw [hx]
  exact kk
theorem z_aald5 (X : z_X p s m args meth c cc nL ret Ts own D dA B) (hI : z_I D dA B h H0 H locs) {i : Int32} {x : Nat} (hv : aR h a 5 i = some x) (hdg : decode cc pc = .ok (.aaload, 1))
    (kk : W p l e R s m args below meth c H locs cells slots Q (F0 m (pc + 1) ls (.ref x :: rest))) : W p l e R s m args below meth c H locs cells slots Q (F0 m pc ls (.int i :: .ref a :: rest)) := by
  obtain ⟨n, f, he, hin, hx⟩ := aR_s hv
  obtain ⟨ws, q0, hP, hD, hS, hq, -⟩ := hI.rd he
  refine va_aldq (z_hx X) (z_hb X) X.2.2.1 hP q0 5 hq rfl hin hdg ?_
  rw [hx]
  exact kk
theorem z_iast (X : z_X p s m args meth c cc nL ret Ts own D dA B) (hI : z_I D dA B h H0 H locs) {i x : Int32} {h1 : z_H} (hv : uI h a 0 i x = some h1) (hdg : decode cc pc = .ok (.iastore, 1))
    (kk : ∀ (H1 : Heap) (locs1 : List Loc), z_I D dA B h1 H0 H1 locs1 → W p l e R s m args below meth c H1 locs1 cells slots Q (F0 m (pc + 1) ls rest)) : W p l e R s m args below meth c H locs cells slots Q (F0 m pc ls (.int x :: .int i :: .ref a :: rest)) := by
  obtain ⟨n, f, he, hin, rfl⟩ := uI_s hv
  obtain ⟨ws, q0, hP, hD, hS, hq, hu⟩ := hI.rd he
  exact va_iast (z_hx X) (z_hb X) X.2.2.1 hP hD hS q0 0 hq rfl hin hdg (fun H1 l1 p1 d1 s1 => kk H1 l1 (hu _ H1 l1 p1 d1 s1))
theorem z_cast (X : z_X p s m args meth c cc nL ret Ts own D dA B) (hI : z_I D dA B h H0 H locs) {i x : Int32} {h1 : z_H} (hv : uI h a 1 i (vp_nar .char x) = some h1) (hdg : decode cc pc = .ok (.castore, 1))
    (kk : ∀ (H1 : Heap) (locs1 : List Loc), z_I D dA B h1 H0 H1 locs1 → W p l e R s m args below meth c H1 locs1 cells slots Q (F0 m (pc + 1) ls rest)) : W p l e R s m args below meth c H locs cells slots Q (F0 m pc ls (.int x :: .int i :: .ref a :: rest)) := by
  obtain ⟨n, f, he, hin, rfl⟩ := uI_s hv
  obtain ⟨ws, q0, hP, hD, hS, hq, hu⟩ := hI.rd he
  exact va_cast (z_hx X) (z_hb X) X.2.2.1 hP hD hS q0 1 hq rfl hin hdg (fun H1 l1 p1 d1 s1 => kk H1 l1 (hu _ H1 l1 p1 d1 s1))
theorem z_zast (X : z_X p s m args meth c cc nL ret Ts own D dA B) (hI : z_I D dA B h H0 H locs) {i x : Int32} {h1 : z_H} (hv : uI h a 3 i (vp_nar .boolean x) = some h1) (hdg : decode cc pc = .ok (.bastore, 1))
    (kk : ∀ (H1 : Heap) (locs1 : List Loc), z_I D dA B h1 H0 H1 locs1 → W p l e R s m args below meth c H1 locs1 cells slots Q (F0 m (pc + 1) ls rest)) : W p l e R s m args below meth c H locs cells slots Q (F0 m pc ls (.int x :: .int i :: .ref a :: rest)) := by
  obtain ⟨n, f, he, hin, rfl⟩ := uI_s hv
  obtain ⟨ws, q0, hP, hD, hS, hq, hu⟩ := hI.rd he
  exact va_zast (z_hx X) (z_hb X) X.2.2.1 hP hD hS q0 3 hq rfl hin hdg (fun H1 l1 p1 d1 s1 => kk H1 l1 (hu _ H1 l1 p1 d1 s1))
theorem z_last (X : z_X p s m args meth c cc nL ret Ts own D dA B) (hI : z_I D dA B h H0 H locs) {i : Int32} {x : Int64} {h1 : z_H} (hv : uL h a i x = some h1) (hdg : decode cc pc = .ok (.lastore, 1))
    (kk : ∀ (H1 : Heap) (locs1 : List Loc), z_I D dA B h1 H0 H1 locs1 → W p l e R s m args below meth c H1 locs1 cells slots Q (F0 m (pc + 1) ls rest)) : W p l e R s m args below meth c H locs cells slots Q (F0 m pc ls (.long x :: .int i :: .ref a :: rest)) := by
  obtain ⟨n, f, he, hin, rfl⟩ := uL_s hv
  obtain ⟨ws, q0, hP, hD, hS, hq, hu⟩ := hI.rd he
  exact va_last (z_hx X) (z_hb X) X.2.2.1 hP hD hS q0 2 hq rfl hin hdg (fun H1 l1 p1 d1 s1 => kk H1 l1 (hu _ H1 l1 p1 d1 s1))
theorem z_topi {x y : Int32} (h : x = y) (k : W p l e R s m args below meth c H locs cells slots Q (F0 m pc ls (.int y :: rest))) : W p l e R s m args below meth c H locs cells slots Q (F0 m pc ls (.int x :: rest)) := by
  rw [h]; exact k
theorem z_topl {x y : Int64} (h : x = y) (k : W p l e R s m args below meth c H locs cells slots Q (F0 m pc ls (.long y :: rest))) : W p l e R s m args below meth c H locs cells slots Q (F0 m pc ls (.long x :: rest)) := by
  rw [h]; exact k
theorem z_topr {x y : Nat} (h : x = y) (k : W p l e R s m args below meth c H locs cells slots Q (F0 m pc ls (.ref y :: rest))) : W p l e R s m args below meth c H locs cells slots Q (F0 m pc ls (.ref x :: rest)) := by
  rw [h]; exact k
theorem zB_s2 {x y : Int32} (h : zB x = some y) : y = 0 ∨ y = 1 := by
  obtain ⟨h1, h2⟩ := zB_s h
  rw [← h1]; exact h2
theorem z_nb {x y : Int32} (h : zB x = some y) : narrow .boolean (.int y) = .int y := by
  rcases zB_s2 h with e | e <;> rw [e] <;> rfl
theorem z_ne {x y : Int32} {k : Int} (h : ¬ x = y) (hk : y.toInt = k) : ¬ x.toInt = k := fun e => h (Int32.toInt_inj.mp (e.trans hk.symm))
theorem z_tabD (hexec : p.tables.exec = Jvm.exec) (hb : c.code = cc) {dflt lo hi : Int} {offs : Array Int} {len : Nat} {x : Int32} {tgt : Nat} {ks : List Int} (hdg : decode cc pc = .ok (.tableswitch dflt lo hi offs, len)) (hsz : hi = lo + (offs.size : Int) - 1) (hall : ∀ k : Nat, k < offs.size → (lo + (k : Int)) ∈ ks ∨ offs[k]? = some dflt) (hn : ∀ k ∈ ks, ¬ x.toInt = k) (ht : (pc : Int) + dflt = (tgt : Int))
    (k : W p l e R s m args below meth c H locs cells slots Q (F0 m tgt ls rest)) : W p l e R s m args below meth c H locs cells slots Q (F0 m pc ls (.int x :: rest)) := by
  by_cases h : x.toInt < lo ∨ hi < x.toInt
  · exact lv_tableOut hexec hb hdg h ht k
  · have h1 : ¬ x.toInt < lo := fun q => h (Or.inl q)
    have h2 : ¬ hi < x.toInt := fun q => h (Or.inr q)
    have e1 : lo + (((x.toInt - lo).toNat : Nat) : Int) = x.toInt := by omega
    rcases hall (x.toInt - lo).toNat (by omega) with h3 | h3
    · rw [e1] at h3
      exact absurd rfl (hn _ h3)
    · exact lv_tableIn hexec hb hdg h1 h2 h3 ht k
theorem z_lokD (hexec : p.tables.exec = Jvm.exec) (hb : c.code = cc) {dflt : Int} {ps : Array (Int × Int)} {len : Nat} {x : Int32} {tgt : Nat} {ks : List Int} (hdg : decode cc pc = .ok (.lookupswitch dflt ps, len)) (hp : (ps.toList.zip (ps.toList.drop 1)).all (fun (a, next) => a.1 < next.1) = true) (hall : ∀ q ∈ ps.toList, q.1 ∈ ks) (hn : ∀ k ∈ ks, ¬ x.toInt = k) (ht : (pc : Int) + dflt = (tgt : Int))
    (k : W p l e R s m args below meth c H locs cells slots Q (F0 m tgt ls rest)) : W p l e R s m args below meth c H locs cells slots Q (F0 m pc ls (.int x :: rest)) := by
  refine lv_lookup hexec hb hdg hp ?_ ht k
  generalize ps.toList = L at hall
  clear hdg hp
  induction L with
  | nil => rfl
  | cons q L ih =>
    obtain ⟨a, o⟩ := q
    rw [lookupswitch.offset_cons, if_neg (fun e => hn a (hall (a, o) List.mem_cons_self) e.symm)]
    exact ih (fun q hq => hall q (List.mem_cons_of_mem _ hq))
end ZC
