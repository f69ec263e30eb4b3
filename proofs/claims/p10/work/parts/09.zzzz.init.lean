def uR (h : z_H) (a t : Nat) (i : Int32) (v ci : Nat) : Option z_H := match h a, h v with
  | some (.inl (t', n, .inr (.inr (.inr (.inr f))))), some (.inr o) => if t' = t ∧ o.1 = ci ∧ ¬ (i < 0 ∨ n ≤ i.toNatClampNeg) then some (z_up h a (.inl (t, n, .inr (.inr (.inr (.inr (va_up f i.toNatClampNeg (some v)))))))) else none
  | _, _ => none
theorem uR_s {h h' : z_H} {a t v ci : Nat} {i : Int32} (e : uR h a t i v ci = some h') : ∃ n f fs, h a = some (.inl (t, n, .inr (.inr (.inr (.inr f))))) ∧ h v = some (.inr (ci, fs)) ∧ vp_in i n ∧ h' = z_up h a (.inl (t, n, .inr (.inr (.inr (.inr (va_up f i.toNatClampNeg (some v))))))) := by
  unfold uR at e
  split at e
  · next t' n f o h1 h2 =>
    split at e
    · next q =>
      cases e
      exact ⟨n, f, o.2, by rw [h1, q.1], by rw [h2, ← q.2.1], q.2.2, rfl⟩
    · cases e
  · cases e
section ZI
variable {p : Program} {l : Launch} {e : Env} {R : Room} {s : State} {m : MethodId} {args : Array Value} {below : List Frame} {meth : Method} {c : Code} {H : Heap} {locs : List Loc} {cells slots : Nat} {Q : State → Prop}
variable {cc cy : ByteArray} {pc nL ny index n k fr lo mc ms : Nat} {ret ry : Option FieldType} {ls : Array Slot} {rest st0 : List Value} {Ts : List Cond} {own host : String} {D : va_G} {dA : Nat → ClassId} {B b a : Nat} {h h' : z_H} {y : MethodName} {As av : List Value}
theorem z_aast (X : z_X p s m args meth c cc nL ret Ts own D dA B) (hI : z_I D dA B h s.heap H locs) {t ci v : Nat} {r : vw_C} {i : Int32} {h1 : z_H} (hv : uR h a t i v ci = some h1) (ht : (z_ty dA)[t]? = some (dA t, .object r.1)) (hc : zcl[ci]? = some r) (hdg : decode cc pc = .ok (.aastore, 1))
    (kk : ∀ (H1 : Heap) (locs1 : List Loc), z_I D dA B h1 s.heap H1 locs1 → W p l e R s m args below meth c H1 locs1 cells slots Q (F0 m (pc + 1) ls rest)) : W p l e R s m args below meth c H locs cells slots Q (F0 m pc ls (.ref v :: .int i :: .ref a :: rest)) := by
  obtain ⟨N, f, fs, he, hev, hin, rfl⟩ := uR_s hv
  obtain ⟨⟨L, hP, hD, hL⟩, hS⟩ := hI
  have hav : v ∈ L := hL v (by rw [hev]; rfl)
  obtain ⟨qk, hqk⟩ := va_pl_get (X := []) (f := fun a => z_cv dA (h a)) hav
  have ha : a ∈ L := hL a (by rw [he]; rfl)
  obtain ⟨q0, hq0⟩ := va_pl_get (X := []) (f := fun a => z_cv dA (h a)) ha
  have e1 : (z_wl dA L h)[q0]? = some (a, .inl (dA t, N, .inr (.inr (.inr (.inr f))))) := (show (z_wl dA L h)[q0]? = some (a, z_cv dA (h a)) from hq0).trans (by rw [he]; rfl)
  have e2 : (z_wl dA L h)[qk]? = some (v, .inr (ci, fs)) := (show (z_wl dA L h)[qk]? = some (v, z_cv dA (h v)) from hqk).trans (by rw [hev]; rfl)
  refine va_astq (z_hx X) (z_hb X) X.2.2.1 hP hD hS q0 t qk ci e1 ht e2 hc hin hdg (fun H1 l1 p1 d1 s1 => ?_)
  refine kk H1 l1 ⟨?_, s1⟩
  have hs := va_pl_set (A := fun q => B ≤ q) (X := []) (f := fun a => z_cv dA (h a)) (e := z_cv dA (some (.inl (t, N, .inr (.inr (.inr (.inr (va_up f i.toNatClampNeg (some v))))))))) hD ha hq0
  have hs2 : (z_wl dA L h).set q0 (a, .inl (dA t, N, .inr (.inr (.inr (.inr (va_up f i.toNatClampNeg (some v))))))) = z_wl dA L (z_up h a (.inl (t, N, .inr (.inr (.inr (.inr (va_up f i.toNatClampNeg (some v)))))))) := by
    refine (show (z_wl dA L h).set q0 _ = va_pl L (va_up (fun a => z_cv dA (h a)) a _) from hs).trans (va_pl_congr (fun q => ?_))
    unfold va_up z_up
    by_cases hq : q = a
    · simp [hq]
    · simp [hq]
  rw [hs2] at p1 d1
  refine ⟨L, p1, d1, fun q hq => ?_⟩
  by_cases h9 : q = a
  · rw [h9]; exact ha
  · unfold z_up at hq
    rw [if_neg h9] at hq
    exact hL q hq
theorem zn_run {a : Array Value} (hI : z_I D dA B h s.heap H locs) (hr : va_Run p l e R s m args below meth c H locs cells slots mc ms (F0 m pc ls st0) rest (zn_Q D dA B h' k a) (fun q => B ≤ q))
    (kk : ∀ (H1 : Heap) (locs1 : List Loc), z_I D dA B h' s.heap H1 locs1 → H1.size = k → W p l e R s m args below meth c H1 locs1 (cells + mc) (slots + ms) Q (F0 m (pc + 3) ls rest)) : W p l e R s m args below meth c H locs cells slots Q (F0 m pc ls st0) := by
  intro T hT Y
  obtain ⟨v, st₀, t, T', L, h0, Y', hL, e1, e2, ⟨hv, hG, ⟨hz, hk⟩, hsz⟩, st⟩ := hr T hT Y
  cases hv
  rw [h0] at hz hk
  obtain ⟨hV, hS1, hS2, hS3⟩ := hI
  obtain ⟨t2, a1, b1⟩ := kk T'.heap (locs ++ L) ⟨by rw [e1]; exact hG.1, Nat.le_trans hS1 (by rw [e1]; exact hz), fun q hq hn => by
    rw [e1, hk q (Nat.lt_of_lt_of_le hq hS1) hn]; exact hS2 q hq hn, fun x hx => by
    rcases List.mem_append.mp hx with h9 | h9
    · exact hS3 x h9
    · exact hL x h9⟩ (by rw [e1]; exact hsz) T' rfl Y'
  exact ⟨t2, st t2 a1, b1⟩
theorem zn_pre (X : z_X p s m args meth c cc nL ret Ts own D dA B) (hF : zn_F s) (hI : z_I D dA B h s.heap H locs) (hn : H.size = n) (av : List Value) : ∀ U : State, U.heap = H → s.WarmedH U.vm → zn_P D dA B av h n av.toArray U := fun U hU hW => ⟨z_pre X hI av U hU hW, by rw [hU]; exact hn, hF.warm hW⟩
def z_yI (y : MethodName) (cy : ByteArray) (ny : Nat) (j : Nat) : Prop :=
  Cond.instanceMethod y ∈ zT ∧ Cond.initialized y.cls ∈ zT ∧ Cond.code y cy ny none ∈ zT ∧ y.name = "<init>" ∧ y.cls ≠ "java/lang/invoke/MethodHandle" ∧ y.cls ≠ "java/lang/invoke/VarHandle" ∧ (parseMethodDescriptor y.desc).map (fun d => d.parameters.length) = some j
theorem zn_callI {j : Nat} (X : z_X p s m args meth c cc nL ret Ts own D dA B) (hF : zn_F s) (hI : z_I D dA B h s.heap H locs) (hn : H.size = n) (hM : zn_Met l y cy ny fr lo mc ms D dA B (.ref b :: As) h n h') (w1 : Cond.methodLink own index y ∈ zT) (w : z_yI y cy ny j) (hj : As.length = j) (hls : ls.size = nL) (hst : st0 = As.reverse ++ .ref b :: rest) (hro : (rest.map fun v => v.category).sum ≤ 8)
    (hR : fr + 1 ≤ R.frames ∧ 8 + (ny + 11) + lo ≤ R.locals) (hcs : cells + mc ≤ R.cells ∧ slots + ms ≤ R.slots) (hdg : decode cc pc = .ok (.invokespecial index, 3))
    (kk : ∀ (H1 : Heap) (locs1 : List Loc), z_I D dA B h' s.heap H1 locs1 → H1.size = n + mc → W p l e R s m args below meth c H1 locs1 (cells + mc) (slots + ms) Q (F0 m (pc + 3) ls rest)) : W p l e R s m args below meth c H locs cells slots Q (F0 m pc ls st0) := by
  obtain ⟨w2, w4, w5, w6, w7, w8, w9⟩ := w
  exact zn_run hI (va_runI (As := As) (rest := rest) X.1 hM (cwI j X.1.2.2.2.2 (z_good2 X (z_all w5)) rfl rfl rfl (z_w X w4) (z_w X w1) (z_w X w2) w6 ⟨w7, w8, w9⟩ hR) ⟨zn_blind, zn_pre X hF hI hn _⟩ rfl hj hls hst (lv_room hro) hdg hcs) kk
theorem zn_callN {j : Nat} (X : z_X p s m args meth c cc nL ret Ts own D dA B) (hF : zn_F s) (hI : z_I D dA B h s.heap H locs) (hn : H.size = n) (hM : zn_Met l y cy ny fr lo mc ms D dA B (.ref b :: As) h n h') (w1 : (own, index, y, host) ∈ z_nest) (w : z_yI y cy ny j) (hj : As.length = j) (hls : ls.size = nL) (hst : st0 = As.reverse ++ .ref b :: rest) (hro : (rest.map fun v => v.category).sum ≤ 8)
    (hR : fr + 1 ≤ R.frames ∧ 8 + (ny + 11) + lo ≤ R.locals) (hcs : cells + mc ≤ R.cells ∧ slots + ms ≤ R.slots) (hdg : decode cc pc = .ok (.invokespecial index, 3))
    (kk : ∀ (H1 : Heap) (locs1 : List Loc), z_I D dA B h' s.heap H1 locs1 → H1.size = n + mc → W p l e R s m args below meth c H1 locs1 (cells + mc) (slots + ms) Q (F0 m (pc + 3) ls rest)) : W p l e R s m args below meth c H locs cells slots Q (F0 m pc ls st0) := by
  obtain ⟨w2, w4, w5, w6, w7, w8, w9⟩ := w
  exact zn_run hI (va_runIN (As := As) (rest := rest) X.1 hM ⟨va_cnB j X.1.2.2.2.2 (z_good2 X (z_all w5)) rfl rfl rfl (hF.1 _ w1) (z_w X w4) ⟨w7, w8, w9⟩ hR, w6, z_w X w2⟩ ⟨zn_blind, zn_pre X hF hI hn _⟩ rfl hj hls hst (lv_room hro) hdg hcs) kk
end ZI
