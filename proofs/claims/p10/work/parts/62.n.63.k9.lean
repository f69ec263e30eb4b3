/-! contents: a script as a machine reads it; what the class keeps of it -/
def x_pr (t : Int32 → Int32) (n a : Int32) : Int32 := ((x_adrs t n a).getD (0, 0)).1
def x_pq (t : Int32 → Int32) (n a : Int32) : Int32 := (x_neg t n (x_pr t n a)).1
def x_pv (t : Int32 → Int32) (n a : Int32) : Int32 := (x_neg t n (x_pr t n a)).2
def x_pe (t : Int32 → Int32) (n a : Int32) : Int32 := ((x_cmd t n a).getD (0, 0, 0)).1
/-- place, depth, commands, their places, open blocks, targets of blocks, labels -/
abbrev x_SS : Type := Int32 × Int32 × Int32 × (Int32 → Int32) × (Int32 → Int32) × (Int32 → Int32) × (Int32 → Int32)
abbrev xSa (B : x_SS) : Int32 := B.1
abbrev xSd (B : x_SS) : Int32 := B.2.1
abbrev xSz (B : x_SS) : Int32 := B.2.2.1
abbrev xSp (B : x_SS) : Int32 → Int32 := B.2.2.2.1
abbrev xSo (B : x_SS) : Int32 → Int32 := B.2.2.2.2.1
abbrev xSg (B : x_SS) : Int32 → Int32 := B.2.2.2.2.2.1
abbrev xSl (B : x_SS) : Int32 → Int32 := B.2.2.2.2.2.2
def x_sbl (B : x_SS) : x_SS := (xSa B + 1, xSd B, xSz B, xSp B, xSo B, xSg B, xSl B)
def x_scl (B : x_SS) : x_SS := (xSa B + 1, xSd B - 1, xSz B, xSp B, xSo B, x_up (xSg B) (xSo B (xSd B - 1)) (xSz B), xSl B)
def x_scm (t : Int32 → Int32) (n : Int32) (B : x_SS) : x_SS := (x_pe t n (xSa B), if x_lk t n (x_pq t n (xSa B)) = 123 then xSd B + 1 else xSd B, xSz B + 1, x_up (xSp B) (xSz B) (xSa B), if x_lk t n (x_pq t n (xSa B)) = 123 then x_up (xSo B) (xSd B) (xSz B) else xSo B, xSg B, if x_lk t n (x_pq t n (xSa B)) = 58 then x_up (xSl B) (x_lk t n (x_pq t n (xSa B) + 1) - 97) (xSz B + 1) else xSl B)
def x_sbk (c : Int32) : Prop := c = 32 ∨ c = 10 ∨ c = 59
noncomputable def x_sstp (t : Int32 → Int32) (n : Int32) (B : x_SS) : x_SS := x_cif (x_sbk (x_lk t n (xSa B))) (x_sbl B) (if x_lk t n (xSa B) = 125 then x_scl B else x_scm t n B)
def x_sfin (t : Int32 → Int32) (n : Int32) (B : x_SS) : Bool := decide (x_lk t n (xSa B) = -1)
def x_S00 : x_SS := (0, 0, 0, fun _ => 0, fun _ => 0, fun _ => 0, fun _ => -1)
noncomputable def x_sW (t : Int32 → Int32) (n : Int32) (B : x_SS) : x_SS := x_wh x_S00 (x_sfin t n) (x_sstp t n) B
section K9
variable {t : Int32 → Int32} {n : Int32} {B : x_SS}
theorem x_sW_t (h : x_lk t n (xSa B) = -1) : x_sW t n B = B := x_wh_t (by simp only [x_sfin, h, decide_true])
theorem x_sW_s (h : ¬ x_lk t n (xSa B) = -1) : x_sW t n B = x_sW t n (x_sstp t n B) := x_wh_s (by simp only [x_sfin, h, decide_false])
theorem x_sW_b (h : x_sbk (x_lk t n (xSa B))) : x_sW t n B = x_sW t n (x_sbl B) := by
  rw [x_sW_s (by rcases h with e | e | e <;> rw [e] <;> decide), x_sstp, x_cif_t h]
theorem x_sW_c (h : x_lk t n (xSa B) = 125) : x_sW t n B = x_sW t n (x_scl B) := by
  rw [x_sW_s (by rw [h]; decide), x_sstp, x_cif_f (by rw [h]; rintro (e | e | e) <;> exact absurd e (by decide)), if_pos h]
theorem x_sW_m (h : ¬ x_lk t n (xSa B) = -1 ∧ ¬ x_lk t n (xSa B) = 32 ∧ ¬ x_lk t n (xSa B) = 10 ∧ ¬ x_lk t n (xSa B) = 59 ∧ ¬ x_lk t n (xSa B) = 125) : x_sW t n B = x_sW t n (x_scm t n B) := by
  obtain ⟨h1, h2, h3, h4, h5⟩ := h
  rw [x_sW_s h1, x_sstp, x_cif_f (by rintro (e | e | e); exact h2 e; exact h3 e; exact h4 e), if_neg h5]
theorem x_pq_e {a : Int32} {r : Int32 × Int32} (e : x_adrs t n a = some r) : x_pq t n a = (x_neg t n r.1).1 ∧ x_pv t n a = (x_neg t n r.1).2 := by
  unfold x_pq x_pv x_pr
  rw [e]
  exact ⟨rfl, rfl⟩
theorem x_pe_e {a b k v : Int32} {r : Int32 × Int32} (e : x_adrs t n a = some r) (e2 : x_act t n (x_neg t n r.1).1 (if r.2 = 1 ∨ (x_neg t n r.1).2 = 1 then 1 else 0) = some (b, k, v)) : x_pe t n a = b := by
  unfold x_pe x_cmd
  rw [e]
  show ((x_act t n (x_neg t n r.1).1 (if r.2 = 1 ∨ (x_neg t n r.1).2 = 1 then 1 else 0)).getD (0, 0, 0)).1 = b
  rw [e2]
  rfl
theorem x_act1 {a ad b k v : Int32} (e : x_act t n a ad = some (b, k, v)) : k = 1 ↔ x_lk t n a = 123 := by
  by_cases c : x_lk t n a = 123
  · rw [x_ac123 c] at e; cases e; exact ⟨fun _ => c, fun _ => rfl⟩
  · refine ⟨fun z => ?_, fun z => absurd z c⟩
    exfalso
    subst z
    unfold x_act x_fin at e
    simp only [if_neg c] at e
    repeat' split at e
    all_goals simp at e
end K9
def c_CMD (h : z_H) (it c : Nat) (t : Int32 → Int32) (n a : Int32) : Prop := c_ADS h it c t n a ∧ vI h c 6 = x_pv t n a ∧ c_ACT h it c t n (x_pq t n a)
/-- a script in the making -/
def c_SC (h : z_H) (v0 pg : Nat) (t : Int32 → Int32) (n : Int32) (B : x_SS) : Prop := (vI h (v0 + 1) 1 = xSa B ∧ vI h v0 4 = xSd B ∧ vI h pg 3 = xSz B) ∧ (0 ≤ xSd B ∧ xSd B ≤ 4 ∧ 0 ≤ xSz B ∧ xSz B ≤ 40) ∧ (∀ k, 0 ≤ k → k < xSz B → c_CMD h (pg + 3) (y_cm pg k) t n (xSp B k)) ∧ (∀ d, 0 ≤ d → d < xSd B → vA h (v0 + 3) d = xSo B d ∧ 0 ≤ xSo B d ∧ xSo B d < xSz B) ∧ (∀ k, 0 ≤ k → k < xSz B → x_lk t n (x_pq t n (xSp B k)) = 123 → vI h (y_cm pg k) 7 = xSg B k ∨ ∃ d, 0 ≤ d ∧ d < xSd B ∧ xSo B d = k) ∧ (∀ j, 0 ≤ j → j < 26 → vA h (v0 + 4) j = xSl B j)
/-- a script that is read -/
def c_PRG (h : z_H) (pg : Nat) (t : Int32 → Int32) (n : Int32) (B : x_SS) : Prop := (vI h pg 3 = xSz B ∧ 0 ≤ xSz B ∧ xSz B ≤ 40) ∧ ∀ k, 0 ≤ k → k < xSz B → c_CMD h (pg + 3) (y_cm pg k) t n (xSp B k) ∧ (x_lk t n (x_pq t n (xSp B k)) = 98 ∨ x_lk t n (x_pq t n (xSp B k)) = 116 → vI h (y_cm pg k) 7 = (if vI h (y_cm pg k) 8 = -1 then xSz B else xSl B (vI h (y_cm pg k) 8))) ∧ (x_lk t n (x_pq t n (xSp B k)) = 123 → vI h (y_cm pg k) 7 = xSg B k)
def c_TX (h : z_H) (pg : Nat) (t : Int32 → Int32) (n : Int32) : Prop := (∀ j, 0 ≤ j → j < n → vA h ((pg + 1) + 1) j = t j) ∧ vI h (pg + 1) 1 = n
/-- labels are joined -/
def c_JN (h h' : z_H) (v0 pg : Nat) (v : Int32) : Prop := (∀ a k, ¬ k = 7 → vI h' a k = vI h a k) ∧ (∀ a, vA h' a = vA h a) ∧ (∀ a, vL h' a = vL h a) ∧ ∀ k, 0 ≤ k → k < 40 → vI h' (y_cm pg k) 7 = if v ≤ k ∧ k < vI h pg 3 ∧ (vI h (y_cm pg k) 3 = 98 ∨ vI h (y_cm pg k) 3 = 116) then (if vI h (y_cm pg k) 8 = -1 then vI h pg 3 else vA h (v0 + 4) (vI h (y_cm pg k) 8)) else vI h (y_cm pg k) 7
section K9b
variable {h h' h1 : z_H} {v0 pg : Nat} {t : Int32 → Int32} {n v : Int32} {B : x_SS}
theorem y_cm_i {j k : Int32} (j0 : 0 ≤ j) (k0 : 0 ≤ k) (h : ¬ j = k) : y_cm pg j + 6 ≤ y_cm pg k ∨ y_cm pg k + 6 ≤ y_cm pg j := by
  unfold y_cm
  have ne : j.toNatClampNeg ≠ k.toNatClampNeg := fun q => h (x_cli j0 k0 q)
  omega
theorem c_CMD_f {it c : Nat} {a : Int32} (P : c_CMD h it c t n a) (F : c_FB h h' it (vI h it 4)) (s : vI h it 4 ≤ vI h' it 4) (e : ∀ a k, c ≤ a → a < c + 6 → ¬ k = 7 → ¬ k = 15 → vI h' a k = vI h a k) : c_CMD h' it c t n a := by
  obtain ⟨a1, a2, a3⟩ := P
  exact ⟨c_ADS_f a1 F s (e c 5 (by omega) (by omega) (by omega) (by omega)) (fun d k d1 d4 k7 => e (c + d) k (by omega) (by omega) (by omega) (by omega)), (e c 6 (by omega) (by omega) (by omega) (by omega)).trans a2, c_ACT_f a3 F s (e c 3 (by omega) (by omega) (by omega) (by omega)) (fun k k8 k14 => e c k (by omega) (by omega) (by omega) (by omega)) (fun k k7 => e (c + 5) k (by omega) (by omega) (by omega) (by omega))⟩
theorem c_JN_0 (le : vI h pg 3 ≤ v) : c_JN h h v0 pg v := by
  refine ⟨fun _ _ _ => rfl, fun _ => rfl, fun _ => rfl, fun k k0 k1 => ?_⟩
  rw [if_neg (fun z => absurd (Int32.lt_of_lt_of_le z.2.1 le) (Int32.not_lt.mpr z.1))]
theorem c_JN_n (v0' : 0 ≤ v) (v1 : v < 40) (k1 : ¬ vI h (y_cm pg v) 3 = 98) (k2 : ¬ vI h (y_cm pg v) 3 = 116) (J : c_JN h h' v0 pg (v + 1)) : c_JN h h' v0 pg v := by
  obtain ⟨j1, j2, j3, j4⟩ := J
  refine ⟨j1, j2, j3, fun k k0 k40 => ?_⟩
  rw [j4 k k0 k40]
  by_cases q : k = v
  · rw [if_neg (fun z => by rw [q] at z; exact z.2.2.elim k1 k2), if_neg (fun z => by rw [q] at z; exact z.2.2.elim k1 k2)]
  · have e : (v + 1 ≤ k) ↔ (v ≤ k) := by constructor <;> intro _ <;> lia
    simp only [e]
theorem c_JN_b {T : Int32} (v0' : 0 ≤ v) (v1 : v < 40) (vs : v < vI h pg 3) (dp : ¬ pg = y_cm pg v) (kk : vI h (y_cm pg v) 3 = 98 ∨ vI h (y_cm pg v) 3 = 116) (i1 : ∀ a k, vI h1 a k = if a = y_cm pg v ∧ k = 7 then T else vI h a k) (a1 : ∀ a, vA h1 a = vA h a) (l1 : ∀ a, vL h1 a = vL h a) (eT : T = (if vI h (y_cm pg v) 8 = -1 then vI h pg 3 else vA h (v0 + 4) (vI h (y_cm pg v) 8))) (J : c_JN h1 h' v0 pg (v + 1)) : c_JN h h' v0 pg v := by
  obtain ⟨j1, j2, j3, j4⟩ := J
  have N : ∀ a k, ¬ k = 7 → vI h1 a k = vI h a k := fun a k z => by rw [i1, if_neg (fun y => z y.2)]
  refine ⟨fun a k z => (j1 a k z).trans (N a k z), fun a => (j2 a).trans (a1 a), fun a => (j3 a).trans (l1 a), fun k k0 k40 => ?_⟩
  rw [j4 k k0 k40, N pg 3 (by decide), N (y_cm pg k) 3 (by decide), N (y_cm pg k) 8 (by decide), a1]
  by_cases q : k = v
  · subst q
    rw [if_neg (fun z => absurd z.1 (by lia)), if_pos ⟨Int32.le_refl _, vs, kk⟩, i1, if_pos ⟨rfl, rfl⟩, eT]
  · have e : (v + 1 ≤ k) ↔ (v ≤ k) := by constructor <;> intro _ <;> lia
    have E7 : vI h1 (y_cm pg k) 7 = vI h (y_cm pg k) 7 := by
      rw [i1]
      exact if_neg (fun z => by have := y_cm_i (pg := pg) k0 v0' q; omega)
    rw [E7]
    simp only [e]
theorem c_SC_bl (S : c_SC h v0 pg t n B) (i1 : ∀ a k, vI h' a k = if a = v0 + 1 ∧ k = 1 then vI h (v0 + 1) 1 + 1 else vI h a k) (a1 : ∀ a, vA h' a = vA h a) (l1 : ∀ a, vL h' a = vL h a) (D : v0 + 5 ≤ pg) : c_SC h' v0 pg t n (x_sbl B) := by
  obtain ⟨⟨b1, b2, b3⟩, r, c, o, g, l⟩ := S
  have N : ∀ a k, pg ≤ a → vI h' a k = vI h a k := fun a k z => by rw [i1, if_neg (fun y => by omega)]
  refine ⟨⟨by rw [i1, if_pos ⟨rfl, rfl⟩, b1]; rfl, by rw [i1, if_neg (fun y => by omega)]; exact b2, (N pg 3 (by omega)).trans b3⟩, r, fun k k0 k1 => ?_, fun d d0 d1 => by rw [a1]; exact o d d0 d1, fun k k0 k1 z => ?_, fun j j0 j1 => by rw [a1]; exact l j j0 j1⟩
  · exact c_CMD_f (c k k0 k1) (c_FB_a (a1 _) (a1 _) (l1 _) (l1 _)) (Int32.le_of_eq (N (pg + 3) 4 (by omega)).symm) (fun a k' h1 _ _ _ => N a k' (by unfold y_cm at h1; omega))
  · rw [N (y_cm pg k) 7 (by unfold y_cm; omega)]; exact g k k0 k1 z
theorem c_SC_cl (S : c_SC h v0 pg t n B) (D : v0 + 5 ≤ pg) (dz : ¬ vI h v0 4 = 0) (q1 : vI h' (v0 + 1) 1 = vI h (v0 + 1) 1 + 1) (q2 : vI h' v0 4 = vI h v0 4 - 1) (q3 : vI h' (pg + (9 + 6 * Int32.toNatClampNeg (vA h (v0 + 3) (vI h v0 4 - 1)))) 7 = vI h pg 3) (i1 : ∀ a k, ¬ (a = v0 ∧ k = 4) → ¬ (a = pg + (9 + 6 * Int32.toNatClampNeg (vA h (v0 + 3) (vI h v0 4 - 1))) ∧ k = 7) → ¬ (a = v0 + 1) → vI h' a k = vI h a k) (a1 : ∀ a, vA h' a = vA h a) (l1 : ∀ a, vL h' a = vL h a) : c_SC h' v0 pg t n (x_scl B) := by
  obtain ⟨⟨b1, b2, b3⟩, ⟨r1, r2, r3, r4⟩, c, o, g, l⟩ := S
  rw [b2] at dz q2 q3 i1
  rw [b3] at q3
  have d1 : 0 ≤ xSd B - 1 ∧ xSd B - 1 < xSd B ∧ xSd B - 1 ≤ 4 := by refine ⟨?_, ?_, ?_⟩ <;> lia
  obtain ⟨o1, o2, o3⟩ := o (xSd B - 1) d1.1 d1.2.1
  rw [o1] at q3 i1
  have N : ∀ a k, pg ≤ a → ¬ (a = y_cm pg (xSo B (xSd B - 1)) ∧ k = 7) → vI h' a k = vI h a k := fun a k z y => i1 a k (fun w => by omega) y (by omega)
  have cmp : ∀ k : Int32, pg + 9 ≤ y_cm pg k := fun k => by unfold y_cm; omega
  refine ⟨⟨q1.trans (by rw [b1]; rfl), q2, (N pg 3 (by omega) (fun w => absurd w.2 (by decide))).trans b3⟩, ⟨d1.1, d1.2.2, r3, r4⟩, fun k k0 k1 => ?_, fun d d0 dd => ?_, fun k k0 k1 z => ?_, fun j j0 j1 => by rw [a1]; exact l j j0 j1⟩
  · exact c_CMD_f (c k k0 k1) (c_FB_a (a1 _) (a1 _) (l1 _) (l1 _)) (Int32.le_of_eq (N (pg + 3) 4 (by omega) (fun w => absurd w.2 (by decide))).symm) (fun a k' h1 h2 h3 _ => N a k' (by have := cmp k; omega) (fun w => h3 w.2))
  · rw [a1]; exact o d d0 (Int32.lt_trans dd d1.2.1)
  · show vI h' (y_cm pg k) 7 = x_up (xSg B) (xSo B (xSd B - 1)) (xSz B) k ∨ ∃ d, 0 ≤ d ∧ d < xSd B - 1 ∧ xSo B d = k
    by_cases y : k = xSo B (xSd B - 1)
    · left
      rw [y, x_up_s]; exact q3
    · rw [x_up_n y, N (y_cm pg k) 7 (by have := cmp k; omega) (fun w => by have := y_cm_i (pg := pg) k0 o2 y; omega)]
      rcases g k k0 k1 z with e | ⟨d, d0, d2, d3⟩
      · exact Or.inl e
      · refine Or.inr ⟨d, d0, ?_, d3⟩
        have : ¬ d = xSd B - 1 := fun w => y (by rw [← d3, w])
        lia
theorem c_SC_cm {k0 v5 : Int32} {r : Int32 × Int32} (S : c_SC h v0 pg t n B) (D : v0 + 5 ≤ pg) (s40 : vI h pg 3 < 40) (E1 : x_adrs t n (vI h (v0 + 1) 1) = some r) (A1 : x_A1 x_abc (x_act t n (x_neg t n r.1).1 (if r.2 = 1 ∨ (x_neg t n r.1).2 = 1 then 1 else 0)) (vI h' (v0 + 1) 1) (vI h v0 4) (vI h' v0 4) (vI h pg 3 + 1) (vA h (v0 + 4)) (vA h' (v0 + 4)) k0 v5) (q3 : vI h' pg 3 = vI h pg 3 + 1) (F : c_FB h h' (pg + 3) (vI h (pg + 3) 4)) (G : vI h (pg + 3) 4 ≤ vI h' (pg + 3) 4) (i1 : ∀ a k, pg + 9 ≤ a → ¬ (y_cm pg (vI h pg 3) ≤ a ∧ a < y_cm pg (vI h pg 3) + 6) → vI h' a k = vI h a k) (C : c_CMD h' (pg + 3) (y_cm pg (vI h pg 3)) t n (vI h (v0 + 1) 1)) (O1 : x_lk t n (x_neg t n r.1).1 = 123 → vA h' (v0 + 3) (vI h v0 4) = vI h pg 3) (O2 : ∀ j, 0 ≤ j → ¬ j = vI h v0 4 → vA h' (v0 + 3) j = vA h (v0 + 3) j) (L1 : x_lk t n (x_neg t n r.1).1 = 58 → ∀ j, 0 ≤ j → vA h' (v0 + 4) j = if j = x_lk t n ((x_neg t n r.1).1 + 1) - 97 then vI h pg 3 + 1 else vA h (v0 + 4) j) (L2 : ¬ x_lk t n (x_neg t n r.1).1 = 58 → vA h' (v0 + 4) = vA h (v0 + 4)) : c_SC h' v0 pg t n (x_scm t n B) := by
  obtain ⟨⟨b1, b2, b3⟩, ⟨r1, r2, r3, r4⟩, c, o, g, l⟩ := S
  rw [b1] at E1 C
  obtain ⟨pq, pv⟩ := x_pq_e E1
  obtain ⟨k, v, ea, A⟩ := A1
  have pe := x_pe_e E1 ea
  rw [b3] at s40 q3 i1 C O1 L1 A
  rw [b2] at A O1 O2
  rw [← pq] at O1 L1 L2 ea
  have dep : vI h' v0 4 = (if x_lk t n (x_pq t n (xSa B)) = 123 then xSd B + 1 else xSd B) ∧ (x_lk t n (x_pq t n (xSa B)) = 123 → ¬ xSd B = 4) := by
    have kk : k = 1 ↔ x_lk t n (x_pq t n (xSa B)) = 123 := x_act1 ea
    rcases A with ⟨e, n4, e2, -⟩ | ⟨e, e2, -⟩ | ⟨e, e2, -⟩ | ⟨e, e2, -⟩
    · rw [if_pos (kk.mp e)]; exact ⟨e2, fun _ => n4⟩
    all_goals
      have ne : ¬ x_lk t n (x_pq t n (xSa B)) = 123 := fun z => absurd (e.symm.trans (kk.mpr z)) (by decide)
      rw [if_neg ne]; exact ⟨e2, fun z => absurd z ne⟩
  refine ⟨⟨pe.symm, dep.1, q3⟩, ⟨?_, ?_, ?_, ?_⟩, fun j j0 j1 => ?_, fun d d0 dd => ?_, fun j j0 j1 z => ?_, fun j j0 j1 => ?_⟩
  · show 0 ≤ (if x_lk t n (x_pq t n (xSa B)) = 123 then xSd B + 1 else xSd B)
    split
    · lia
    · exact r1
  · show (if x_lk t n (x_pq t n (xSa B)) = 123 then xSd B + 1 else xSd B) ≤ 4
    split
    · next z => have := dep.2 z; lia
    · exact r2
  · show 0 ≤ xSz B + 1
    lia
  · show xSz B + 1 ≤ 40
    lia
  · show c_CMD h' (pg + 3) (y_cm pg j) t n (x_up (xSp B) (xSz B) (xSa B) j)
    by_cases y : j = xSz B
    · rw [y, x_up_s]; exact C
    · have j2 : j < xSz B := by
        have j1' : j < xSz B + 1 := j1
        lia
      rw [x_up_n y]
      refine c_CMD_f (c j j0 j2) F G (fun a k' h1 h2 _ _ => i1 a k' (by unfold y_cm at h1; omega) ?_)
      have := y_cm_i (pg := pg) j0 r3 y
      omega
  · have dd' : d < (if x_lk t n (x_pq t n (xSa B)) = 123 then xSd B + 1 else xSd B) := dd
    show vA h' (v0 + 3) d = (if x_lk t n (x_pq t n (xSa B)) = 123 then x_up (xSo B) (xSd B) (xSz B) else xSo B) d ∧ 0 ≤ (if x_lk t n (x_pq t n (xSa B)) = 123 then x_up (xSo B) (xSd B) (xSz B) else xSo B) d ∧ (if x_lk t n (x_pq t n (xSa B)) = 123 then x_up (xSo B) (xSd B) (xSz B) else xSo B) d < xSz B + 1
    by_cases z : x_lk t n (x_pq t n (xSa B)) = 123
    · rw [if_pos z] at dd' ⊢
      by_cases y : d = xSd B
      · rw [y, x_up_s, O1 z]; exact ⟨rfl, r3, by lia⟩
      · rw [x_up_n y, O2 d d0 y]
        obtain ⟨w1, w2, w3⟩ := o d d0 (by lia)
        exact ⟨w1, w2, by lia⟩
    · rw [if_neg z] at dd' ⊢
      obtain ⟨w1, w2, w3⟩ := o d d0 dd'
      rw [O2 d d0 (fun y => absurd (y ▸ dd') Int32.lt_irrefl)]
      exact ⟨w1, w2, by lia⟩
  · show vI h' (y_cm pg j) 7 = xSg B j ∨ ∃ d, 0 ≤ d ∧ d < (if x_lk t n (x_pq t n (xSa B)) = 123 then xSd B + 1 else xSd B) ∧ (if x_lk t n (x_pq t n (xSa B)) = 123 then x_up (xSo B) (xSd B) (xSz B) else xSo B) d = j
    have z' : x_lk t n (x_pq t n (x_up (xSp B) (xSz B) (xSa B) j)) = 123 := z
    by_cases y : j = xSz B
    · rw [y, x_up_s] at z'
      refine Or.inr ⟨xSd B, r1, ?_, ?_⟩
      · rw [if_pos z']; lia
      · rw [if_pos z', x_up_s, y]
    · rw [x_up_n y] at z'
      have j2 : j < xSz B := by
        have j1' : j < xSz B + 1 := j1
        lia
      rw [i1 (y_cm pg j) 7 (by unfold y_cm; omega) (by have := y_cm_i (pg := pg) j0 r3 y; omega)]
      rcases g j j0 j2 z' with e | ⟨d, d0, d2, d3⟩
      · exact Or.inl e
      · refine Or.inr ⟨d, d0, ?_, ?_⟩
        · split
          · lia
          · exact d2
        · split
          · rw [x_up_n (fun w => absurd (w ▸ d2) Int32.lt_irrefl)]; exact d3
          · exact d3
  · show vA h' (v0 + 4) j = (if x_lk t n (x_pq t n (xSa B)) = 58 then x_up (xSl B) (x_lk t n (x_pq t n (xSa B) + 1) - 97) (xSz B + 1) else xSl B) j
    by_cases z : x_lk t n (x_pq t n (xSa B)) = 58
    · rw [if_pos z, L1 z j j0]
      unfold x_up
      by_cases y : j = x_lk t n (x_pq t n (xSa B) + 1) - 97
      · rw [if_pos y, if_pos y]
      · rw [if_neg y, if_neg y]; exact l j j0 j1
    · rw [if_neg z, L2 z]; exact l j j0 j1
theorem c_PRG_o (S : c_SC h v0 pg t n B) (D : v0 + 5 ≤ pg) (st : x_lk t n (vI h (v0 + 1) 1) = -1) (d0 : vI h v0 4 = 0) (J : c_JN h h' v0 pg 0) : c_PRG h' pg t n (x_sW t n B) := by
  obtain ⟨⟨b1, b2, b3⟩, ⟨r1, r2, r3, r4⟩, c, o, g, l⟩ := S
  rw [b1] at st
  rw [x_sW_t st]
  obtain ⟨j1, j2, j3, j4⟩ := J
  refine ⟨⟨(j1 pg 3 (by decide)).trans b3, r3, r4⟩, fun k k0 k1 => ⟨?_, fun z => ?_, fun z => ?_⟩⟩
  · exact c_CMD_f (c k k0 k1) (c_FB_a (j2 _) (j2 _) (j3 _) (j3 _)) (Int32.le_of_eq (j1 (pg + 3) 4 (by decide)).symm) (fun a k' _ _ h3 _ => j1 a k' h3)
  · have c3 := (c k k0 k1).2.2.1
    have l8 := (c k k0 k1).2.2.2.2.2.2 z
    rw [j4 k k0 (Int32.lt_of_lt_of_le k1 r4), if_pos ⟨k0, by rw [b3]; exact k1, by rw [c3]; exact z⟩, j1 _ 8 (by decide), b3]
    by_cases y : vI h (y_cm pg k) 8 = -1
    · rw [if_pos y, if_pos y]
    · rw [if_neg y, if_neg y]
      refine l _ ?_ ?_
      · rw [l8] at y ⊢
        split at y
        · next w => rw [if_pos w]; exact (x_az w).1
        · exact absurd rfl y
      · rw [l8] at y ⊢
        split at y
        · next w => rw [if_pos w]; exact Int32.lt_of_le_of_lt (x_az w).2 (by decide)
        · exact absurd rfl y
  · have c3 := (c k k0 k1).2.2.1
    rw [j4 k k0 (Int32.lt_of_lt_of_le k1 r4), if_neg (fun w => by rw [c3, z] at w; exact absurd w.2.2 (by decide))]
    rcases g k k0 k1 z with e | ⟨d, e0, e1, -⟩
    · exact e
    · rw [← b2, d0] at e1
      exact absurd (Int32.lt_of_le_of_lt e0 e1) (by decide)
theorem c_TX_o (ht : ∀ j, 0 ≤ j → j < n → vA h ((pg + 1) + 1) j = t j) (hn : vI h (pg + 1) 1 = n) (J : c_JN h h' v0 pg 0) : c_TX h' pg t n := ⟨fun j j0 j1 => by rw [J.2.1]; exact ht j j0 j1, (J.1 _ 1 (by decide)).trans hn⟩
theorem c_PRG_f (P : c_PRG h pg t n B) (i : ∀ a k, pg ≤ a → a < pg + 249 → ¬ k = 15 → vI h' a k = vI h a k) (a : ∀ b, pg ≤ b → b < pg + 249 → vA h' b = vA h b) (l : ∀ b, pg ≤ b → b < pg + 249 → vL h' b = vL h b) : c_PRG h' pg t n B := by
  obtain ⟨⟨p1, p2, p3⟩, c⟩ := P
  refine ⟨⟨(i pg 3 (by omega) (by omega) (by decide)).trans p1, p2, p3⟩, fun k k0 k1 => ?_⟩
  obtain ⟨c1, c2, c3⟩ := c k k0 k1
  have kk : k.toNatClampNeg < 40 := q_clp k0 (Int32.lt_of_lt_of_le k1 p3)
  have b1 : pg + 9 ≤ y_cm pg k ∧ y_cm pg k + 6 ≤ pg + 249 := by unfold y_cm; omega
  refine ⟨c_CMD_f c1 (c_FB_a (a _ (by omega) (by omega)) (a _ (by omega) (by omega)) (l _ (by omega) (by omega)) (l _ (by omega) (by omega))) (Int32.le_of_eq (i (pg + 3) 4 (by omega) (by omega) (by decide)).symm) (fun b k' h1 h2 _ h15 => i b k' (by omega) (by omega) h15), fun z => ?_, fun z => ?_⟩
  · rw [i _ 7 (by omega) (by omega) (by decide), i _ 8 (by omega) (by omega) (by decide)]; exact c2 z
  · rw [i _ 7 (by omega) (by omega) (by decide)]; exact c3 z
theorem c_SC0 (q1 : vI h (v0 + 1) 1 = 0) (q2 : vI h v0 4 = 0) (q3 : vI h pg 3 = 0) (lb : ∀ j, 0 ≤ j → j < 26 → vA h (v0 + 4) j = -1) : c_SC h v0 pg t n x_S00 :=
  ⟨⟨q1, q2, q3⟩, ⟨(show (0 : Int32) ≤ 0 by decide), (show (0 : Int32) ≤ 4 by decide), (show (0 : Int32) ≤ 0 by decide), (show (0 : Int32) ≤ 40 by decide)⟩, fun k k0 k1 => absurd (Int32.lt_of_le_of_lt k0 k1) (show ¬ (0 : Int32) < 0 by decide), fun k k0 k1 => absurd (Int32.lt_of_le_of_lt k0 k1) (show ¬ (0 : Int32) < 0 by decide), fun k k0 k1 => absurd (Int32.lt_of_le_of_lt k0 k1) (show ¬ (0 : Int32) < 0 by decide), lb⟩
end K9b
