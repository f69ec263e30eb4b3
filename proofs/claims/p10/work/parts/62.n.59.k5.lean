/-! contents: what the class keeps of a command -/
def c_PP (h : z_H) (it pt : Nat) (t : Int32 → Int32) (n p : Int32) : Prop := ∃ b, c_PF h it pt b (x_pA t n p) ∧ b + xi (x_pA t n p) ≤ vI h it 4 ∧ vI h pt 0 = (if x_lk t n p = 94 then 1 else 0) ∧ ∃ rp, c_WF (x_pA t n p) 0 rp
def x_aK (c : Int32) : Int32 := if c = 47 then 2 else if c = 36 then 1 else 0
def x_aN (t : Int32 → Int32) (n p : Int32) : Int32 := if 48 ≤ x_lk t n (p + 1) ∧ x_lk t n (p + 1) ≤ 57 then 10 * (x_lk t n p - 48) + x_lk t n (p + 1) - 48 else x_lk t n p - 48
def c_AD (h : z_H) (it ad : Nat) (t : Int32 → Int32) (n p : Int32) : Prop := vI h ad 1 = x_aK (x_lk t n p) ∧ (x_aK (x_lk t n p) = 0 → vI h ad 2 = x_aN t n p) ∧ (x_aK (x_lk t n p) = 2 → c_PP h it (ad + 1) t n (p + 1))
def x_sA (c : Int32) : Prop := c = 36 ∨ c = 47 ∨ (49 ≤ c ∧ c ≤ 57)
def x_e1 (t : Int32 → Int32) (n a : Int32) : Int32 := (x_adr t n a).getD 0
noncomputable def x_na (t : Int32 → Int32) (n a : Int32) : Int32 := x_cif (x_sA (x_lk t n a)) (if x_lk t n (x_e1 t n a) = 44 then 2 else 1) 0
def c_ADS (h : z_H) (it c : Nat) (t : Int32 → Int32) (n a : Int32) : Prop := vI h c 5 = x_na t n a ∧ (1 ≤ x_na t n a → c_AD h it (c + 1) t n a) ∧ (x_na t n a = 2 → c_AD h it (c + 3) t n (x_e1 t n a + 1))
section K5
variable {h h' : z_H} {it pt ad c : Nat} {t : Int32 → Int32} {n p a : Int32}
theorem c_PP_f (P : c_PP h it pt t n p) (F : c_FB h h' it (vI h it 4)) (s : vI h it 4 ≤ vI h' it 4) (e : ∀ k, k < 7 → vI h' pt k = vI h pt k) : c_PP h' it pt t n p := by
  obtain ⟨b, ⟨⟨q1, q2, q3, q4, q5, q6⟩, ⟨b0, i0, i1, b1⟩, I⟩, le, ab, W⟩ := P
  refine ⟨b, ⟨⟨?_, ?_, ?_, ?_, ?_, ?_⟩, ⟨b0, i0, i1, b1⟩, c_IT_f I b0 b1 i1 F le⟩, Int32.le_trans le s, ?_, W⟩
  · rw [e 6 (by decide)]; exact q1
  · rw [e 1 (by decide)]; exact q2
  · rw [e 2 (by decide)]; exact q3
  · rw [e 3 (by decide)]; exact q4
  · rw [e 4 (by decide)]; exact q5
  · rw [e 5 (by decide)]; exact q6
  · rw [e 0 (by decide)]; exact ab
theorem c_AD_f (P : c_AD h it ad t n p) (F : c_FB h h' it (vI h it 4)) (s : vI h it 4 ≤ vI h' it 4) (e1 : vI h' ad 1 = vI h ad 1) (e2 : vI h' ad 2 = vI h ad 2) (e : ∀ k, k < 7 → vI h' (ad + 1) k = vI h (ad + 1) k) : c_AD h' it ad t n p :=
  ⟨e1.trans P.1, fun z => e2.trans (P.2.1 z), fun z => c_PP_f (P.2.2 z) F s e⟩
theorem c_ADS_f (P : c_ADS h it c t n a) (F : c_FB h h' it (vI h it 4)) (s : vI h it 4 ≤ vI h' it 4) (e5 : vI h' c 5 = vI h c 5) (e : ∀ d k, 1 ≤ d → d ≤ 4 → k < 7 → vI h' (c + d) k = vI h (c + d) k) : c_ADS h' it c t n a :=
  ⟨e5.trans P.1, fun z => c_AD_f (P.2.1 z) F s (e 1 1 (by decide) (by decide) (by decide)) (e 1 2 (by decide) (by decide) (by decide)) (fun k hk => e 2 k (by decide) (by decide) hk), fun z => c_AD_f (P.2.2 z) F s (e 3 1 (by decide) (by decide) (by decide)) (e 3 2 (by decide) (by decide) (by decide)) (fun k hk => e 4 k (by decide) (by decide) hk)⟩
theorem c_PP_o {b : Int32} (P : c_PF h it pt b (x_pA t n p)) (W : ∃ rp, c_WF (x_pA t n p) 0 rp) (s : vI h it 4 = b + xi (x_pA t n p)) (ab : vI h pt 0 = (if x_lk t n p = 94 then 1 else 0)) : c_PP h it pt t n p := ⟨b, P, Int32.le_of_eq s.symm, ab, W⟩
/-- the items only grow, and stay behind the place -/
theorem c_grow {b s s' : Int32} (P : c_PF h it pt b (x_pA t n p)) (e0 : s = b) (e : s' = b + xi (x_pA t n p)) : s ≤ s' := by
  obtain ⟨-, ⟨b0, i0, i1, b1⟩, -⟩ := P
  rw [e, e0]; lia
theorem x_aK0 {k : Int32} (h1 : ¬ k = 47) (h2 : ¬ k = 36) : x_aK k = 0 := by rw [x_aK, if_neg h1, if_neg h2]
theorem c_AD_p (c : x_lk t n p = 47) (e : vI h ad 1 = 2) (P : c_PP h it (ad + 1) t n (p + 1)) : c_AD h it ad t n p := by
  have k : x_aK (x_lk t n p) = 2 := by rw [c]; decide
  exact ⟨e.trans k.symm, fun z => absurd (k.symm.trans z) (by decide), fun _ => P⟩
theorem c_AD_d (c : x_lk t n p = 36) (e : vI h ad 1 = 1) : c_AD h it ad t n p := by
  have k : x_aK (x_lk t n p) = 1 := by rw [c]; decide
  exact ⟨e.trans k.symm, fun z => absurd (k.symm.trans z) (by decide), fun z => absurd (k.symm.trans z) (by decide)⟩
theorem c_AD_n (c1 : ¬ x_lk t n p = 47) (c2 : ¬ x_lk t n p = 36) (e : vI h ad 1 = 0) (e2 : vI h ad 2 = x_aN t n p) : c_AD h it ad t n p := by
  have k := x_aK0 c1 c2
  exact ⟨e.trans k.symm, fun _ => e2, fun z => absurd (k.symm.trans z) (by decide)⟩
theorem x_na0 (h : ¬ x_sA (x_lk t n a)) : x_na t n a = 0 := x_cif_f h
theorem x_na1 (h : x_sA (x_lk t n a)) (h2 : ¬ x_lk t n (x_e1 t n a) = 44) : x_na t n a = 1 := by rw [x_na, x_cif_t h, if_neg h2]
theorem x_na2 (h : x_sA (x_lk t n a)) (h2 : x_lk t n (x_e1 t n a) = 44) : x_na t n a = 2 := by rw [x_na, x_cif_t h, if_pos h2]
theorem x_e1e {b : Int32} (e : x_adr t n a = some b) : x_e1 t n a = b := by rw [x_e1, e]; rfl
theorem c_ADS0 (c0 : ¬ x_sA (x_lk t n a)) (e : vI h c 5 = 0) : c_ADS h it c t n a := by
  have k := x_na0 c0
  exact ⟨e.trans k.symm, fun z => absurd (k ▸ z) (by decide), fun z => absurd (k.symm.trans z) (by decide)⟩
theorem c_ADS1 {b : Int32} (c0 : x_sA (x_lk t n a)) (e1 : x_adr t n a = some b) (c1 : ¬ x_lk t n b = 44) (e : vI h c 5 = 1) (A : c_AD h it (c + 1) t n a) : c_ADS h it c t n a := by
  have k := x_na1 c0 (by rw [x_e1e e1]; exact c1)
  exact ⟨e.trans k.symm, fun _ => A, fun z => absurd (k.symm.trans z) (by decide)⟩
theorem c_ADS2 {b : Int32} (c0 : x_sA (x_lk t n a)) (e1 : x_adr t n a = some b) (c1 : x_lk t n b = 44) (e : vI h c 5 = 2) (A : c_AD h it (c + 1) t n a) (A2 : c_AD h it (c + 3) t n (b + 1)) : c_ADS h it c t n a := by
  have k := x_na2 c0 (by rw [x_e1e e1]; exact c1)
  exact ⟨e.trans k.symm, fun _ => A, fun _ => by rw [x_e1e e1]; exact A2⟩
end K5
/-- what s, y, a, i, c keep -/
def x_sq1 (t : Int32 → Int32) (n q : Int32) : Int32 := ((x_pattern t n (q + 2)).getD (0, 0)).1
def x_sg (t : Int32 → Int32) (n q : Int32) : Int32 := ((x_pattern t n (q + 2)).getD (0, 0)).2
def x_sq2 (t : Int32 → Int32) (n q : Int32) : Int32 := (x_rep t n (x_sq1 t n q) (x_sg t n q)).getD 0
/-- flags: place, g, p, number -/
abbrev x_F4 : Type := Int32 × Int32 × Int32 × Int32
def x_fst (t : Int32 → Int32) (n : Int32) (s : x_F4) : x_F4 := if x_lk t n s.1 = 103 ∧ s.2.1 = 0 then (s.1 + 1, 1, s.2.2.1, s.2.2.2) else if x_lk t n s.1 = 112 ∧ s.2.2.1 = 0 then (s.1 + 1, s.2.1, 1, s.2.2.2) else (s.1 + 1, s.2.1, s.2.2.1, x_lk t n s.1 - 48)
def x_fsp (t : Int32 → Int32) (n : Int32) (s : x_F4) : Bool := !(decide (x_lk t n s.1 = 103 ∧ s.2.1 = 0) || decide (x_lk t n s.1 = 112 ∧ s.2.2.1 = 0) || decide ((49 ≤ x_lk t n s.1 ∧ x_lk t n s.1 ≤ 57) ∧ s.2.2.2 = 0))
noncomputable def x_fW (t : Int32 → Int32) (n a g p d : Int32) : x_F4 := x_wh (0, 0, 0, 0) (x_fsp t n) (x_fst t n) (a, g, p, d)
section K5b
variable {t : Int32 → Int32} {n a g p d : Int32}
theorem x_fW_g (h : x_lk t n a = 103) (z : g = 0) : x_fW t n a g p d = x_fW t n (a + 1) 1 p d := by
  unfold x_fW
  rw [x_wh_s (by simp [x_fsp, h, z]), x_fst, if_pos ⟨h, z⟩]
theorem x_fW_p (h : x_lk t n a = 112) (z : p = 0) : x_fW t n a g p d = x_fW t n (a + 1) g 1 d := by
  unfold x_fW
  rw [x_wh_s (by simp [x_fsp, h, z]), x_fst, if_neg (fun y => absurd (h.symm.trans y.1) (by decide)), if_pos ⟨h, z⟩]
theorem x_fW_d (h : 49 ≤ x_lk t n a) (h2 : x_lk t n a ≤ 57) (z : d = 0) : x_fW t n a g p d = x_fW t n (a + 1) g p (x_lk t n a - 48) := by
  unfold x_fW
  rw [x_wh_s (by simp [x_fsp, h, h2, z]), x_fst, if_neg (fun y => absurd (y.1 ▸ h2) (by decide)), if_neg (fun y => absurd (y.1 ▸ h2) (by decide))]
theorem x_fW_n (h1 : ¬ (x_lk t n a = 103 ∧ g = 0)) (h2 : ¬ (x_lk t n a = 112 ∧ p = 0)) (h3 : ¬ ((49 ≤ x_lk t n a ∧ x_lk t n a ≤ 57) ∧ d = 0)) : x_fW t n a g p d = (a, g, p, d) := x_wh_t (by
  show (!(decide (x_lk t n a = 103 ∧ g = 0) || decide (x_lk t n a = 112 ∧ p = 0) || decide ((49 ≤ x_lk t n a ∧ x_lk t n a ≤ 57) ∧ d = 0))) = true
  rw [decide_eq_false h1, decide_eq_false h2, decide_eq_false h3]; rfl)
theorem x_fW_a {v : Int32} (h : v = x_cn g p d) (h3 : 3 ≤ v) : x_fW t n a g p d = (a, g, p, d) := by
  have q : ¬ g = 0 ∧ ¬ p = 0 ∧ ¬ d = 0 := by
    unfold x_cn at h
    subst h
    by_cases g0 : g = 0 <;> by_cases p0 : p = 0 <;> by_cases d0 : d = 0 <;> first
      | exact ⟨g0, p0, d0⟩
      | (exfalso; simp only [g0, p0, d0, if_true, if_false] at h3; revert h3; decide)
  exact x_fW_n (fun z => q.1 z.2) (fun z => q.2.1 z.2) (fun z => q.2.2 z.2)
end K5b
def c_FL (h : z_H) (c : Nat) (F : x_F4) : Prop := vI h c 12 = F.2.1 ∧ vI h c 13 = F.2.2.1 ∧ vI h c 14 = F.2.2.2
def c_SUB (h : z_H) (it c : Nat) (t : Int32 → Int32) (n q : Int32) : Prop := c_PP h it (c + 5) t n (q + 2) ∧ vI h c 9 = x_sq1 t n q ∧ vI h c 10 = x_sq2 t n q - 1 ∧ vI h (c + 5) 6 = x_sg t n q ∧ c_FL h c (x_fW t n (x_sq2 t n q) 0 0 0)
def x_yS (t : Int32 → Int32) (n q : Int32) : Int32 := (x_yf t n (q + 2) (q + 2)).getD 0
/-- what the letter at q keeps -/
def c_ACT (h : z_H) (it c : Nat) (t : Int32 → Int32) (n q : Int32) : Prop := vI h c 3 = x_lk t n q ∧ (x_lk t n q = 115 → c_SUB h it c t n q) ∧ (x_lk t n q = 121 → vI h c 9 = q + 2 ∧ vI h c 10 = x_yS t n q ∧ vI h c 11 = x_yS t n q + 1) ∧ (x_lk t n q = 97 ∨ x_lk t n q = 105 ∨ x_lk t n q = 99 → vI h c 9 = q + 2 ∧ vI h c 10 = x_nl t n (q + 2)) ∧ (x_lk t n q = 98 ∨ x_lk t n q = 116 → vI h c 8 = (if 97 ≤ x_lk t n (q + 1) ∧ x_lk t n (q + 1) ≤ 122 then x_lk t n (q + 1) - 97 else -1))
section K5c
variable {h h' : z_H} {it c : Nat} {t : Int32 → Int32} {n q : Int32}
theorem c_FL_f {F : x_F4} (P : c_FL h c F) (e : ∀ k, 8 ≤ k → k ≤ 14 → vI h' c k = vI h c k) : c_FL h' c F := ⟨(e 12 (by decide) (by decide)).trans P.1, (e 13 (by decide) (by decide)).trans P.2.1, (e 14 (by decide) (by decide)).trans P.2.2⟩
theorem c_SUB_f (P : c_SUB h it c t n q) (F : c_FB h h' it (vI h it 4)) (s : vI h it 4 ≤ vI h' it 4) (e : ∀ k, 8 ≤ k → k ≤ 14 → vI h' c k = vI h c k) (e5 : ∀ k, k < 7 → vI h' (c + 5) k = vI h (c + 5) k) : c_SUB h' it c t n q := by
  obtain ⟨a1, a2, a3, a4, a5⟩ := P
  exact ⟨c_PP_f a1 F s e5, (e 9 (by decide) (by decide)).trans a2, (e 10 (by decide) (by decide)).trans a3, (e5 6 (by decide)).trans a4, c_FL_f a5 e⟩
theorem c_ACT_f (P : c_ACT h it c t n q) (F : c_FB h h' it (vI h it 4)) (s : vI h it 4 ≤ vI h' it 4) (e3 : vI h' c 3 = vI h c 3) (e : ∀ k, 8 ≤ k → k ≤ 14 → vI h' c k = vI h c k) (e5 : ∀ k, k < 7 → vI h' (c + 5) k = vI h (c + 5) k) : c_ACT h' it c t n q := by
  obtain ⟨a1, a2, a3, a4, a5⟩ := P
  refine ⟨e3.trans a1, fun z => c_SUB_f (a2 z) F s e e5, fun z => ?_, fun z => ?_, fun z => (e 8 (by decide) (by decide)).trans (a5 z)⟩
  · rw [e 9 (by decide) (by decide), e 10 (by decide) (by decide), e 11 (by decide) (by decide)]; exact a3 z
  · rw [e 9 (by decide) (by decide), e 10 (by decide) (by decide)]; exact a4 z
/-- the letter told: one of the cases -/
theorem c_ACT_o (e : vI h c 3 = x_lk t n q) (n1 : ¬ x_lk t n q = 115) (n2 : ¬ x_lk t n q = 121) (n3 : ¬ (x_lk t n q = 97 ∨ x_lk t n q = 105 ∨ x_lk t n q = 99)) (n4 : ¬ (x_lk t n q = 98 ∨ x_lk t n q = 116)) : c_ACT h it c t n q := ⟨e, fun z => absurd z n1, fun z => absurd z n2, fun z => absurd z n3, fun z => absurd z n4⟩
theorem c_ACT_k {k : Int32} (hk : x_lk t n q = k) (hk' : ¬ (k = 115 ∨ k = 121 ∨ k = 97 ∨ k = 105 ∨ k = 99 ∨ k = 98 ∨ k = 116)) (e : vI h c 3 = x_lk t n q) : c_ACT h it c t n q := by
  subst hk
  exact c_ACT_o e (fun z => hk' (Or.inl z)) (fun z => hk' (Or.inr (Or.inl z))) (fun z => hk' (Or.inr (Or.inr (by rcases z with z | z | z; exact Or.inl z; exact Or.inr (Or.inl z); exact Or.inr (Or.inr (Or.inl z)))))) (fun z => hk' (Or.inr (Or.inr (Or.inr (Or.inr (Or.inr z))))))
theorem c_ACT_s (hk : x_lk t n q = 115) (e : vI h c 3 = x_lk t n q) (S : c_SUB h it c t n q) : c_ACT h it c t n q := by
  refine ⟨e, fun _ => S, fun z => ?_, fun z => ?_, fun z => ?_⟩ <;> rw [hk] at z <;> exact absurd z (by decide)
theorem c_ACT_y (hk : x_lk t n q = 121) (e : vI h c 3 = x_lk t n q) (S : vI h c 9 = q + 2 ∧ vI h c 10 = x_yS t n q ∧ vI h c 11 = x_yS t n q + 1) : c_ACT h it c t n q := by
  refine ⟨e, fun z => ?_, fun _ => S, fun z => ?_, fun z => ?_⟩ <;> rw [hk] at z <;> exact absurd z (by decide)
theorem c_ACT_a {k : Int32} (hk : x_lk t n q = k) (hk' : k = 97 ∨ k = 105 ∨ k = 99) (e : vI h c 3 = x_lk t n q) (S : vI h c 9 = q + 2 ∧ vI h c 10 = x_nl t n (q + 2)) : c_ACT h it c t n q := by
  refine ⟨e, fun z => ?_, fun z => ?_, fun _ => S, fun z => ?_⟩ <;> rw [hk] at z <;> rcases hk' with y | y | y <;> rw [y] at z <;> exact absurd z (by decide)
theorem c_ACT_b {k : Int32} (hk : x_lk t n q = k) (hk' : k = 98 ∨ k = 116) (e : vI h c 3 = x_lk t n q) (S : vI h c 8 = (if 97 ≤ x_lk t n (q + 1) ∧ x_lk t n (q + 1) ≤ 122 then x_lk t n (q + 1) - 97 else -1)) : c_ACT h it c t n q := by
  refine ⟨e, fun z => ?_, fun z => ?_, fun z => ?_, fun _ => S⟩ <;> rw [hk] at z <;> rcases hk' with y | y <;> rw [y] at z <;> exact absurd z (by decide)
theorem c_SUB_o {b d g : Int32} (e : x_pattern t n (q + 2) = some (b, g)) (e2 : x_rep t n b g = some d) (P : c_PP h it (c + 5) t n (q + 2)) (e9 : vI h c 9 = b) (e10 : vI h c 10 = d - 1) (e6 : vI h (c + 5) 6 = g) (F : c_FL h c (x_fW t n d 0 0 0)) : c_SUB h it c t n q := by
  have q1 : x_sq1 t n q = b := by rw [x_sq1, e]; rfl
  have q2 : x_sg t n q = g := by rw [x_sg, e]; rfl
  have q3 : x_sq2 t n q = d := by rw [x_sq2, q1, q2, e2]; rfl
  exact ⟨P, by rw [q1]; exact e9, by rw [q3]; exact e10, by rw [q2]; exact e6, by rw [q3]; exact F⟩
end K5c
theorem x_p9 {a n : Int32} (n1 : n ≤ 240) (h : a < n) : a + 1 ≤ 900 := by lia
theorem x_p92 {a n : Int32} (n1 : n ≤ 240) (h : a < n) : a + 2 ≤ 900 := by lia
theorem x_sbn {s a b : Int32} (h : 0 ≤ s ∧ s ≤ a) (l : a ≤ b) : 0 ≤ s ∧ s ≤ b := ⟨h.1, Int32.le_trans h.2 l⟩
theorem x_sb1 {t : Int32 → Int32} {n s a : Int32} (n2 : n ≤ 1000) (h : 0 ≤ s ∧ s ≤ a) (c : x_lk t n a = 44) : 0 ≤ s ∧ s ≤ a + 1 := ⟨h.1, Int32.le_trans h.2 (Int32.le_of_lt (x_lp1 n2 (t := t) (x_ne c)))⟩
theorem x_ySe {t : Int32 → Int32} {n q m : Int32} (e : x_yf t n (q + 2) (q + 2) = some m) : x_yS t n q = m := by rw [x_yS, e]; rfl
theorem x_sbs {s s' a d e : Int32} (h0 : 0 ≤ s) (h1 : s ≤ s') (h2 : s' < a) (h3 : a < d) (h4 : d ≤ e) : 0 ≤ s' ∧ s' ≤ e := ⟨Int32.le_trans h0 h1, Int32.le_trans (Int32.le_of_lt (Int32.lt_trans h2 h3)) h4⟩
theorem x_negl {t : Int32 → Int32} {n a : Int32} (n2 : n ≤ 1000) : a ≤ (x_neg t n a).1 := Int32.le_iff_toInt_le.mpr (x_neg_le n2)
theorem x_fll {t : Int32 → Int32} {n a b g : Int32} (e : x_rep t n a g = some b) : b ≤ x_fl t n b 0 0 0 := Int32.le_iff_toInt_le.mpr (x_fl_le t n _ b 0 0 0 (Nat.lt_succ_self _) (x_rep_lt t n g _ a b (Nat.lt_succ_self _) e).2).1
theorem x_nll {t : Int32 → Int32} {n a : Int32} (n2 : n ≤ 1000) (c : ¬ x_lk t n a = -1) : a ≤ x_nl t n (a + 2) := Int32.le_trans (Int32.le_of_lt (x_lp2 n2 c)) (Int32.le_iff_toInt_le.mpr (x_nl_le t n _ (a + 2) (Nat.lt_succ_self _)))
theorem x_brl {t : Int32 → Int32} {n a : Int32} {P : Prop} [Decidable P] (n2 : n ≤ 1000) (c : ¬ x_lk t n a = -1) : a ≤ (if P then a + 2 else a + 1) := by
  split
  · exact Int32.le_of_lt (x_lp2 n2 c)
  · exact Int32.le_of_lt (x_lp1 n2 c)
