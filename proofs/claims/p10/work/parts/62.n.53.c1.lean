/-! contents: words, bits, loops -/
def vL (h : z_H) (a : Nat) (i : Int32) : Int64 := match h a with
  | some (.inl (_, _, .inr (.inl f))) => f i.toNatClampNeg
  | _ => 0
theorem x_vL_c {h h' : z_H} {b : Nat} (e : h' b = h b) : vL h' b = vL h b := by funext j; simp only [vL, e]
section C1
variable {L : q_L} {π : Nat → Nat → Option Nat} {h : z_H} {a c k : Nat} {β : Type} {Q : β → Prop}
theorem l_aLc {f : Int64 → Option β} {i : Int32} {e : Int64} (he : vL h a i = e) (H : 0 ≤ i → qi (f e) Q) : qi (z_b (aL h a i) f) Q := by
  intro r z
  obtain ⟨x, e1, e2⟩ := z_bs z
  obtain ⟨n, g, f1, f2, f3⟩ := aL_s e1
  have ex : x = e := by rw [← he, f3]; simp only [vL, f1]
  have i0 : 0 ≤ i := by
    refine Int32.not_lt.mp fun q => f2 (Or.inl q)
  exact H i0 r (ex ▸ e2)
theorem l_uLc {f : z_H → Option β} {i : Int32} {x : Int64} (T : x_U L π h) (H : ∀ h', x_U L π h' → 0 ≤ i → (∀ b, b ≠ a → h' b = h b) → (∀ j, 0 ≤ j → vL h' a j = if j = i then x else vL h a j) → qi (f h') Q) : qi (z_b (uL h a i x) f) Q := by
  intro r z
  obtain ⟨h', e1, e2⟩ := z_bs z
  obtain ⟨n, g, f1, f2, f3⟩ := uL_s e1
  have i0 : 0 ≤ i := by
    refine Int32.not_lt.mp fun q => f2 (Or.inl q)
  have T' : x_U L π h' := l_uL (f := fun x => some x) (Q := fun h' => x_U L π h') (i := i) (x := x) T (fun h' q1 q2 q3 => qi_some q1) h' (by rw [e1]; rfl)
  refine H h' T' i0 (fun b hb => by rw [f3]; exact if_neg hb) (fun j j0 => ?_) r e2
  have e3 : h' a = some (.inl (2, n, .inr (.inl (vp_updL g i.toNatClampNeg x)))) := by rw [f3]; exact if_pos rfl
  simp only [vL, e3, f1]
  unfold vp_updL
  by_cases w : j = i
  · rw [if_pos w, w, if_pos rfl]
  · rw [if_neg w, if_neg (fun q => w (x_cli j0 i0 q))]
end C1
def x_bt (w : Int64) (k : Int32) : Bool := w.toBitVec.getLsbD k.toNatClampNeg
theorem x_sh1 : ∀ m : Fin 64, ((1 : Int64) <<< (Int32.toInt64 (Int32.ofNat m.val) &&& 63)).toBitVec = BitVec.twoPow 64 m.val := by decide
theorem x_sh2 : ∀ m : Fin 64, ((Int64.toUInt64 (Int32.toInt64 (Int32.ofNat m.val)) &&& Int64.toUInt64 63).toBitVec % 64).toNat = m.val := by decide
theorem x_sh3 : ∀ m : Fin 64, ((Int32.toInt64 (Int32.ofNat m.val) &&& 63).toBitVec.smod 64).toNat = m.val := by decide
theorem x_b64 {k : Int32} (k0 : 0 ≤ k) (k1 : k < 64) : k.toNatClampNeg < 64 ∧ Int32.ofNat k.toNatClampNeg = k := by
  have e := Int32.lt_iff_toInt_lt.mp k1
  have e0 := Int32.le_iff_toInt_le.mp k0
  have z : (64 : Int32).toInt = 64 := rfl
  have z0 : (0 : Int32).toInt = 0 := rfl
  rw [z] at e
  rw [z0] at e0
  refine ⟨?_, Int32.ofNat_toNatClampNeg _ k0⟩
  show k.toInt.toNat < 64
  omega
theorem x_bt_or {w : Int64} {k j : Int32} (k0 : 0 ≤ k) (k1 : k < 64) (j0 : 0 ≤ j) (j1 : j < 64) : x_bt (w ||| (1 <<< (Int32.toInt64 k &&& 63))) j = (x_bt w j || decide (j = k)) := by
  obtain ⟨a, b⟩ := x_b64 k0 k1
  obtain ⟨c, d⟩ := x_b64 j0 j1
  have s := x_sh1 ⟨k.toNatClampNeg, a⟩
  dsimp only at s
  rw [b] at s
  unfold x_bt
  rw [Int64.toBitVec_or, BitVec.getLsbD_or, s, BitVec.getLsbD_twoPow]
  congr 1
  by_cases e : j = k
  · rw [e]; simp [a]
  · have ne : k.toNatClampNeg ≠ j.toNatClampNeg := fun q => e (x_cli j0 k0 q.symm)
    simp [e, ne]
theorem x_bt_xor {w : Int64} {j : Int32} (j0 : 0 ≤ j) (j1 : j < 64) : x_bt (w ^^^ (-1)) j = !x_bt w j := by
  obtain ⟨c, d⟩ := x_b64 j0 j1
  unfold x_bt
  rw [Int64.toBitVec_xor, BitVec.getLsbD_xor, show ((-1 : Int64)).toBitVec = BitVec.allOnes 64 from by decide, BitVec.getLsbD_allOnes]
  simp [c]
theorem x_bt_0 {j : Int32} : x_bt 0 j = false := by
  unfold x_bt
  rw [show (0 : Int64).toBitVec = 0#64 from rfl, BitVec.getLsbD_zero]
theorem x_an8 {y : Int64} : (y &&& 1 = 0 ↔ y.toBitVec.getLsbD 0 = false) ∧ (y &&& 1 = 1 ↔ y.toBitVec.getLsbD 0 = true) := by
  have A : (y &&& 1).toBitVec = BitVec.setWidth 64 (BitVec.ofBool (y.toBitVec.getLsbD 0)) := by
    rw [Int64.toBitVec_and, show (1 : Int64).toBitVec = 1#64 from rfl, BitVec.and_one_eq_setWidth_ofBool_getLsbD]
  have B : ∀ z : Int64, (y &&& 1 = z ↔ (y &&& 1).toBitVec = z.toBitVec) := fun z => ⟨fun e => by rw [e], fun e => Int64.toBitVec_inj.mp e⟩
  rw [B, B, A]
  cases y.toBitVec.getLsbD 0
  · constructor <;> decide
  · constructor <;> decide
theorem x_bt_u {w : Int64} {k : Int32} (k0 : 0 ≤ k) (k1 : k < 64) : ((Int64.toUInt64 w >>> (Int64.toUInt64 (Int32.toInt64 k) &&& Int64.toUInt64 63)).toInt64).toBitVec.getLsbD 0 = x_bt w k := by
  obtain ⟨a, b⟩ := x_b64 k0 k1
  have s := x_sh2 ⟨k.toNatClampNeg, a⟩
  dsimp only at s
  rw [b] at s
  show (Int64.toUInt64 w >>> (Int64.toUInt64 (Int32.toInt64 k) &&& Int64.toUInt64 63)).toBitVec.getLsbD 0 = _
  rw [UInt64.toBitVec_shiftRight]
  show (w.toBitVec >>> ((Int64.toUInt64 (Int32.toInt64 k) &&& Int64.toUInt64 63).toBitVec % 64).toNat).getLsbD 0 = _
  rw [s, BitVec.getLsbD_ushiftRight]
  rfl
theorem x_bt_s {w : Int64} {k : Int32} (k0 : 0 ≤ k) (k1 : k < 64) : (w >>> (Int32.toInt64 k &&& 63)).toBitVec.getLsbD 0 = x_bt w k := by
  obtain ⟨a, b⟩ := x_b64 k0 k1
  have s := x_sh3 ⟨k.toNatClampNeg, a⟩
  dsimp only at s
  rw [b] at s
  rw [Int64.toBitVec_shiftRight]
  show (w.toBitVec.sshiftRight ((Int32.toInt64 k &&& 63).toBitVec.smod 64).toNat).getLsbD 0 = _
  rw [s, BitVec.getLsbD_sshiftRight]
  unfold x_bt
  simp [a]
/-- a character of a set: the class's words, the reference's -/
def x_mb (lo hi : Int64) (c : Int32) : Bool := if c = 10 then x_bt hi 31 else if 96 ≤ c then x_bt hi (c - 96) else x_bt lo (c - 32)
def x_mr (lo hi : Int64) (c : Int32) : Bool := if 64 ≤ c then x_bt hi (c - 64) else x_bt lo c
theorem x_mb_or {lo hi : Int64} {a c : Int32} (a0 : 32 ≤ a) (a1 : a ≤ 126) (kc : x_kc c) : x_mb (if 64 ≤ a - 32 then lo else lo ||| (1 <<< (Int32.toInt64 (a - 32) &&& 63))) (if 64 ≤ a - 32 then hi ||| (1 <<< (Int32.toInt64 (a - 32 - 64) &&& 63)) else hi) c = (x_mb lo hi c || decide (c = a)) := by
  unfold x_mb
  by_cases z : 64 ≤ a - 32
  · rw [if_pos z, if_pos z]
    rcases kc with e | ⟨e0, e1⟩
    · rw [if_pos e, if_pos e, x_bt_or (by lia) (by lia) (by decide) (by decide)]
      congr 1
      rw [e]
      have : ¬ (31 : Int32) = a - 32 - 64 := by lia
      have : ¬ (10 : Int32) = a := by lia
      simp [*]
    · have n10 : ¬ c = 10 := by lia
      rw [if_neg n10, if_neg n10]
      by_cases y : 96 ≤ c
      · rw [if_pos y, if_pos y, x_bt_or (by lia) (by lia) (by lia) (by lia)]
        congr 1
        have : (c - 96 = a - 32 - 64) ↔ c = a := by constructor <;> intro _ <;> lia
        simp [this]
      · rw [if_neg y, if_neg y]
        have : ¬ c = a := by lia
        simp [this]
  · rw [if_neg z, if_neg z]
    rcases kc with e | ⟨e0, e1⟩
    · rw [if_pos e, if_pos e]
      rw [e]
      have : ¬ (10 : Int32) = a := by lia
      simp [this]
    · have n10 : ¬ c = 10 := by lia
      rw [if_neg n10, if_neg n10]
      by_cases y : 96 ≤ c
      · rw [if_pos y, if_pos y]
        have : ¬ c = a := by lia
        simp [this]
      · rw [if_neg y, if_neg y, x_bt_or (by lia) (by lia) (by lia) (by lia)]
        congr 1
        have : (c - 32 = a - 32) ↔ c = a := by constructor <;> intro _ <;> lia
        simp [this]
theorem x_mr_or {lo hi : Int64} {a c : Int32} (a0 : 0 ≤ a) (a1 : a ≤ 126) (kc : x_kc c) : x_mr (if 64 ≤ a then lo else lo ||| (1 <<< (Int32.toInt64 a &&& 63))) (if 64 ≤ a then hi ||| (1 <<< (Int32.toInt64 (a - 64) &&& 63)) else hi) c = (x_mr lo hi c || decide (c = a)) := by
  have c0 : 0 ≤ c ∧ c ≤ 126 := by
    rcases kc with e | e
    · rw [e]; decide
    · exact ⟨Int32.le_trans (by decide) e.1, e.2⟩
  obtain ⟨c0, c1⟩ := c0
  unfold x_mr
  by_cases z : 64 ≤ a
  · rw [if_pos z, if_pos z]
    by_cases y : 64 ≤ c
    · rw [if_pos y, if_pos y, x_bt_or (by lia) (by lia) (by lia) (by lia)]
      congr 1
      have : (c - 64 = a - 64) ↔ c = a := by constructor <;> intro _ <;> lia
      simp [this]
    · rw [if_neg y, if_neg y]
      have : ¬ c = a := by lia
      simp [this]
  · rw [if_neg z, if_neg z]
    by_cases y : 64 ≤ c
    · rw [if_pos y, if_pos y]
      have : ¬ c = a := by lia
      simp [this]
    · rw [if_neg y, if_neg y, x_bt_or (by lia) (by lia) (by lia) (by lia)]
theorem x_mb_not {lo hi : Int64} {c : Int32} (kc : x_kc c) : x_mb (lo ^^^ (-1)) (hi ^^^ (-1)) c = !x_mb lo hi c := by
  unfold x_mb
  rcases kc with e | ⟨e0, e1⟩
  · rw [if_pos e, if_pos e, x_bt_xor (by decide) (by decide)]
  · have n10 : ¬ c = 10 := by lia
    rw [if_neg n10, if_neg n10]
    by_cases y : 96 ≤ c
    · rw [if_pos y, if_pos y, x_bt_xor (by lia) (by lia)]
    · rw [if_neg y, if_neg y, x_bt_xor (by lia) (by lia)]
theorem x_mr_not {lo hi : Int64} {c : Int32} (kc : x_kc c) : x_mr (lo ^^^ (-1)) (hi ^^^ (-1)) c = !x_mr lo hi c := by
  have c0 : 0 ≤ c ∧ c ≤ 126 := by
    rcases kc with e | e
    · rw [e]; decide
    · exact ⟨Int32.le_trans (by decide) e.1, e.2⟩
  obtain ⟨c0, c1⟩ := c0
  unfold x_mr
  by_cases y : 64 ≤ c
  · rw [if_pos y, if_pos y, x_bt_xor (by lia) (by lia)]
  · rw [if_neg y, if_neg y, x_bt_xor (by lia) (by lia)]
theorem x_mb_0 {c : Int32} : x_mb 0 0 c = false := by
  unfold x_mb
  rw [x_bt_0, x_bt_0, x_bt_0]
  by_cases e : c = 10
  · rw [if_pos e]
  · rw [if_neg e]
    by_cases y : 96 ≤ c
    · rw [if_pos y]
    · rw [if_neg y]
theorem x_mr_0 {c : Int32} : x_mr 0 0 c = false := by
  unfold x_mr
  rw [x_bt_0, x_bt_0]
  by_cases y : 64 ≤ c
  · rw [if_pos y]
  · rw [if_neg y]
/-- a loop as a function -/
def x_itn {σ : Type} (stop : σ → Bool) (step : σ → σ) : Nat → σ → Option σ
  | 0, _ => none
  | m + 1, s => if stop s then some s else x_itn stop step m (step s)
theorem x_itn_u {σ : Type} {stop : σ → Bool} {step : σ → σ} : ∀ (m m' : Nat) (s r r' : σ), x_itn stop step m s = some r → x_itn stop step m' s = some r' → r = r' := by
  intro m
  induction m with
  | zero => intro m' s r r' e; cases e
  | succ m ih =>
    intro m' s r r' e e'
    cases m' with
    | zero => cases e'
    | succ m' =>
      rw [x_itn] at e e'
      cases z : stop s with
      | true =>
        rw [z, if_pos rfl] at e e'
        rw [← Option.some.inj e, ← Option.some.inj e']
      | false =>
        rw [z, if_neg (by decide)] at e e'
        exact ih m' _ r r' e e'
noncomputable def x_wh {σ : Type} (d : σ) (stop : σ → Bool) (step : σ → σ) (s : σ) : σ := @dite _ (∃ r m, x_itn stop step m s = some r) (Classical.propDecidable _) (fun h => Classical.choose h) (fun _ => d)
theorem x_wh_e {σ : Type} {d : σ} {stop : σ → Bool} {step : σ → σ} {s r : σ} {m : Nat} (h : x_itn stop step m s = some r) : x_wh d stop step s = r := by
  have ex : ∃ r m, x_itn stop step m s = some r := ⟨r, m, h⟩
  unfold x_wh
  rw [dif_pos ex]
  obtain ⟨m', e⟩ := Classical.choose_spec ex
  exact x_itn_u m' m s _ _ e h
theorem x_wh_t {σ : Type} {d : σ} {stop : σ → Bool} {step : σ → σ} {s : σ} (h : stop s = true) : x_wh d stop step s = s := x_wh_e (m := 1) (by rw [x_itn, if_pos h])
theorem x_wh_s {σ : Type} {d : σ} {stop : σ → Bool} {step : σ → σ} {s : σ} (h : stop s = false) : x_wh d stop step s = x_wh d stop step (step s) := by
  have U : ∀ m, x_itn stop step (m + 1) s = x_itn stop step m (step s) := fun m => by rw [x_itn, h, if_neg (by decide)]
  by_cases q : ∃ r m, x_itn stop step m (step s) = some r
  · obtain ⟨r, m, e⟩ := q
    rw [x_wh_e e, x_wh_e (m := m + 1) (by rw [U]; exact e)]
  · unfold x_wh
    rw [dif_neg q, dif_neg]
    rintro ⟨r, m, e⟩
    cases m with
    | zero => cases e
    | succ m => exact q ⟨r, m, by rw [← U]; exact e⟩
