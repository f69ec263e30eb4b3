theorem x_rm6 {k n : Int32} (n0 : 0 ≤ n) (n1 : n < 240) (k0 : 0 ≤ k) (l : k < n + 1) (q : ¬ k = n) : k < n := by lia
theorem x_al_0 (w : Int64) (f g : Int32 → Int32) (n : Int32) (n0 : 0 ≤ n) (rm : n + q_cn w 0 ≤ 240 ∧ 0 ≤ n + q_cn w 0) (e : ∀ k, 0 ≤ k → k < n → f k = g k) : ∀ j, 0 ≤ j → j < n + q_cn w 0 → x_app w 0 f n j = x_app w 0 g n j := by
  intro j j0 jl
  exact e j j0 (by rw [q_cn_0, Int32.add_zero] at jl; exact jl)
theorem x_al_1 (w : Int64) (f g : Int32 → Int32) (n : Int32) (n0 : 0 ≤ n) (rm : n + q_cn w 1 ≤ 240 ∧ 0 ≤ n + q_cn w 1) (e : ∀ k, 0 ≤ k → k < n → f k = g k) : ∀ j, 0 ≤ j → j < n + q_cn w 1 → x_app w 1 f n j = x_app w 1 g n j := by
  intro j j0 jl
  by_cases c : q_by w 7 = 0
  · rw [q_cn_1, if_pos c] at jl rm
    rw [show x_app w 1 f n = x_app w 0 f n from if_pos c, show x_app w 1 g n = x_app w 0 g n from if_pos c]
    exact x_al_0 w f g n n0 rm e j j0 jl
  · rw [q_cn_1, if_neg c] at jl rm
    have cr := q_cnr_0 w
    rw [show x_app w 1 f n = x_app w 0 (x_up f n (q_by w 7)) (n + 1) from if_neg c, show x_app w 1 g n = x_app w 0 (x_up g n (q_by w 7)) (n + 1) from if_neg c]
    refine x_al_0 w _ _ (n + 1) (x_rm2 n0 rm cr (by decide)) (x_rm3 n0 rm cr (by decide)) (fun k k0 kl => ?_) j j0 (by rw [x_rm4]; exact jl)
    unfold x_up
    by_cases q : k = n
    · rw [if_pos q, if_pos q]
    · rw [if_neg q, if_neg q]
      exact e k k0 (x_rm6 n0 (x_rm1 n0 rm cr (by decide)) k0 kl q)
theorem x_al_2 (w : Int64) (f g : Int32 → Int32) (n : Int32) (n0 : 0 ≤ n) (rm : n + q_cn w 2 ≤ 240 ∧ 0 ≤ n + q_cn w 2) (e : ∀ k, 0 ≤ k → k < n → f k = g k) : ∀ j, 0 ≤ j → j < n + q_cn w 2 → x_app w 2 f n j = x_app w 2 g n j := by
  intro j j0 jl
  by_cases c : q_by w 6 = 0
  · rw [q_cn_2, if_pos c] at jl rm
    rw [show x_app w 2 f n = x_app w 1 f n from if_pos c, show x_app w 2 g n = x_app w 1 g n from if_pos c]
    exact x_al_1 w f g n n0 rm e j j0 jl
  · rw [q_cn_2, if_neg c] at jl rm
    have cr := q_cnr_1 w
    rw [show x_app w 2 f n = x_app w 1 (x_up f n (q_by w 6)) (n + 1) from if_neg c, show x_app w 2 g n = x_app w 1 (x_up g n (q_by w 6)) (n + 1) from if_neg c]
    refine x_al_1 w _ _ (n + 1) (x_rm2 n0 rm cr (by decide)) (x_rm3 n0 rm cr (by decide)) (fun k k0 kl => ?_) j j0 (by rw [x_rm4]; exact jl)
    unfold x_up
    by_cases q : k = n
    · rw [if_pos q, if_pos q]
    · rw [if_neg q, if_neg q]
      exact e k k0 (x_rm6 n0 (x_rm1 n0 rm cr (by decide)) k0 kl q)
theorem x_al_3 (w : Int64) (f g : Int32 → Int32) (n : Int32) (n0 : 0 ≤ n) (rm : n + q_cn w 3 ≤ 240 ∧ 0 ≤ n + q_cn w 3) (e : ∀ k, 0 ≤ k → k < n → f k = g k) : ∀ j, 0 ≤ j → j < n + q_cn w 3 → x_app w 3 f n j = x_app w 3 g n j := by
  intro j j0 jl
  by_cases c : q_by w 5 = 0
  · rw [q_cn_3, if_pos c] at jl rm
    rw [show x_app w 3 f n = x_app w 2 f n from if_pos c, show x_app w 3 g n = x_app w 2 g n from if_pos c]
    exact x_al_2 w f g n n0 rm e j j0 jl
  · rw [q_cn_3, if_neg c] at jl rm
    have cr := q_cnr_2 w
    rw [show x_app w 3 f n = x_app w 2 (x_up f n (q_by w 5)) (n + 1) from if_neg c, show x_app w 3 g n = x_app w 2 (x_up g n (q_by w 5)) (n + 1) from if_neg c]
    refine x_al_2 w _ _ (n + 1) (x_rm2 n0 rm cr (by decide)) (x_rm3 n0 rm cr (by decide)) (fun k k0 kl => ?_) j j0 (by rw [x_rm4]; exact jl)
    unfold x_up
    by_cases q : k = n
    · rw [if_pos q, if_pos q]
    · rw [if_neg q, if_neg q]
      exact e k k0 (x_rm6 n0 (x_rm1 n0 rm cr (by decide)) k0 kl q)
theorem x_al_4 (w : Int64) (f g : Int32 → Int32) (n : Int32) (n0 : 0 ≤ n) (rm : n + q_cn w 4 ≤ 240 ∧ 0 ≤ n + q_cn w 4) (e : ∀ k, 0 ≤ k → k < n → f k = g k) : ∀ j, 0 ≤ j → j < n + q_cn w 4 → x_app w 4 f n j = x_app w 4 g n j := by
  intro j j0 jl
  by_cases c : q_by w 4 = 0
  · rw [q_cn_4, if_pos c] at jl rm
    rw [show x_app w 4 f n = x_app w 3 f n from if_pos c, show x_app w 4 g n = x_app w 3 g n from if_pos c]
    exact x_al_3 w f g n n0 rm e j j0 jl
  · rw [q_cn_4, if_neg c] at jl rm
    have cr := q_cnr_3 w
    rw [show x_app w 4 f n = x_app w 3 (x_up f n (q_by w 4)) (n + 1) from if_neg c, show x_app w 4 g n = x_app w 3 (x_up g n (q_by w 4)) (n + 1) from if_neg c]
    refine x_al_3 w _ _ (n + 1) (x_rm2 n0 rm cr (by decide)) (x_rm3 n0 rm cr (by decide)) (fun k k0 kl => ?_) j j0 (by rw [x_rm4]; exact jl)
    unfold x_up
    by_cases q : k = n
    · rw [if_pos q, if_pos q]
    · rw [if_neg q, if_neg q]
      exact e k k0 (x_rm6 n0 (x_rm1 n0 rm cr (by decide)) k0 kl q)
theorem x_al_5 (w : Int64) (f g : Int32 → Int32) (n : Int32) (n0 : 0 ≤ n) (rm : n + q_cn w 5 ≤ 240 ∧ 0 ≤ n + q_cn w 5) (e : ∀ k, 0 ≤ k → k < n → f k = g k) : ∀ j, 0 ≤ j → j < n + q_cn w 5 → x_app w 5 f n j = x_app w 5 g n j := by
  intro j j0 jl
  by_cases c : q_by w 3 = 0
  · rw [q_cn_5, if_pos c] at jl rm
    rw [show x_app w 5 f n = x_app w 4 f n from if_pos c, show x_app w 5 g n = x_app w 4 g n from if_pos c]
    exact x_al_4 w f g n n0 rm e j j0 jl
  · rw [q_cn_5, if_neg c] at jl rm
    have cr := q_cnr_4 w
    rw [show x_app w 5 f n = x_app w 4 (x_up f n (q_by w 3)) (n + 1) from if_neg c, show x_app w 5 g n = x_app w 4 (x_up g n (q_by w 3)) (n + 1) from if_neg c]
    refine x_al_4 w _ _ (n + 1) (x_rm2 n0 rm cr (by decide)) (x_rm3 n0 rm cr (by decide)) (fun k k0 kl => ?_) j j0 (by rw [x_rm4]; exact jl)
    unfold x_up
    by_cases q : k = n
    · rw [if_pos q, if_pos q]
    · rw [if_neg q, if_neg q]
      exact e k k0 (x_rm6 n0 (x_rm1 n0 rm cr (by decide)) k0 kl q)
theorem x_al_6 (w : Int64) (f g : Int32 → Int32) (n : Int32) (n0 : 0 ≤ n) (rm : n + q_cn w 6 ≤ 240 ∧ 0 ≤ n + q_cn w 6) (e : ∀ k, 0 ≤ k → k < n → f k = g k) : ∀ j, 0 ≤ j → j < n + q_cn w 6 → x_app w 6 f n j = x_app w 6 g n j := by
  intro j j0 jl
  by_cases c : q_by w 2 = 0
  · rw [q_cn_6, if_pos c] at jl rm
    rw [show x_app w 6 f n = x_app w 5 f n from if_pos c, show x_app w 6 g n = x_app w 5 g n from if_pos c]
    exact x_al_5 w f g n n0 rm e j j0 jl
  · rw [q_cn_6, if_neg c] at jl rm
    have cr := q_cnr_5 w
    rw [show x_app w 6 f n = x_app w 5 (x_up f n (q_by w 2)) (n + 1) from if_neg c, show x_app w 6 g n = x_app w 5 (x_up g n (q_by w 2)) (n + 1) from if_neg c]
    refine x_al_5 w _ _ (n + 1) (x_rm2 n0 rm cr (by decide)) (x_rm3 n0 rm cr (by decide)) (fun k k0 kl => ?_) j j0 (by rw [x_rm4]; exact jl)
    unfold x_up
    by_cases q : k = n
    · rw [if_pos q, if_pos q]
    · rw [if_neg q, if_neg q]
      exact e k k0 (x_rm6 n0 (x_rm1 n0 rm cr (by decide)) k0 kl q)
theorem x_al_7 (w : Int64) (f g : Int32 → Int32) (n : Int32) (n0 : 0 ≤ n) (rm : n + q_cn w 7 ≤ 240 ∧ 0 ≤ n + q_cn w 7) (e : ∀ k, 0 ≤ k → k < n → f k = g k) : ∀ j, 0 ≤ j → j < n + q_cn w 7 → x_app w 7 f n j = x_app w 7 g n j := by
  intro j j0 jl
  by_cases c : q_by w 1 = 0
  · rw [q_cn_7, if_pos c] at jl rm
    rw [show x_app w 7 f n = x_app w 6 f n from if_pos c, show x_app w 7 g n = x_app w 6 g n from if_pos c]
    exact x_al_6 w f g n n0 rm e j j0 jl
  · rw [q_cn_7, if_neg c] at jl rm
    have cr := q_cnr_6 w
    rw [show x_app w 7 f n = x_app w 6 (x_up f n (q_by w 1)) (n + 1) from if_neg c, show x_app w 7 g n = x_app w 6 (x_up g n (q_by w 1)) (n + 1) from if_neg c]
    refine x_al_6 w _ _ (n + 1) (x_rm2 n0 rm cr (by decide)) (x_rm3 n0 rm cr (by decide)) (fun k k0 kl => ?_) j j0 (by rw [x_rm4]; exact jl)
    unfold x_up
    by_cases q : k = n
    · rw [if_pos q, if_pos q]
    · rw [if_neg q, if_neg q]
      exact e k k0 (x_rm6 n0 (x_rm1 n0 rm cr (by decide)) k0 kl q)
theorem x_al_8 (w : Int64) (f g : Int32 → Int32) (n : Int32) (n0 : 0 ≤ n) (rm : n + q_cn w 8 ≤ 240 ∧ 0 ≤ n + q_cn w 8) (e : ∀ k, 0 ≤ k → k < n → f k = g k) : ∀ j, 0 ≤ j → j < n + q_cn w 8 → x_app w 8 f n j = x_app w 8 g n j := by
  intro j j0 jl
  by_cases c : q_by w 0 = 0
  · rw [q_cn_8, if_pos c] at jl rm
    rw [show x_app w 8 f n = x_app w 7 f n from if_pos c, show x_app w 8 g n = x_app w 7 g n from if_pos c]
    exact x_al_7 w f g n n0 rm e j j0 jl
  · rw [q_cn_8, if_neg c] at jl rm
    have cr := q_cnr_7 w
    rw [show x_app w 8 f n = x_app w 7 (x_up f n (q_by w 0)) (n + 1) from if_neg c, show x_app w 8 g n = x_app w 7 (x_up g n (q_by w 0)) (n + 1) from if_neg c]
    refine x_al_7 w _ _ (n + 1) (x_rm2 n0 rm cr (by decide)) (x_rm3 n0 rm cr (by decide)) (fun k k0 kl => ?_) j j0 (by rw [x_rm4]; exact jl)
    unfold x_up
    by_cases q : k = n
    · rw [if_pos q, if_pos q]
    · rw [if_neg q, if_neg q]
      exact e k k0 (x_rm6 n0 (x_rm1 n0 rm cr (by decide)) k0 kl q)
/-! what script does to the text; what parse answers -/
theorem qi_q {α : Type} {o : Option α} {Q : α → Prop} (h : qk o Q) : qi o Q := by
  intro y ey
  obtain ⟨x, e, q⟩ := h
  have z := Option.some.inj (e.symm.trans ey)
  exact z ▸ q
theorem x_rm5 {l x : Int32} (l0 : 0 ≤ l) (l1 : l ≤ 240) (c : 0 ≤ x ∧ x ≤ 8) : 0 ≤ l + x := by
  obtain ⟨c1, c2⟩ := c
  lia
theorem x_P11 {o : Option (Int32 × (Int32 → Int32) × (Int32 → Int32))} {s s' : Int32} (a : x_P1 o s) (b : x_P1 o s') : s = s' := by
  obtain ⟨r, e, _, rfl⟩ := a
  obtain ⟨r', e', _, rfl⟩ := b
  rw [Option.some.inj (e.symm.trans e')]
theorem x_P10 {o : Option (Int32 × (Int32 → Int32) × (Int32 → Int32))} {s : Int32} (a : x_P1 o s) (b : x_P0 o) : False := by
  obtain ⟨r, e, k, _⟩ := a
  exact absurd (k.symm.trans (b r e)) (by decide)
section TXT
variable {L : q_L} {W : Nat → Prop} {h0 : z_H} {π : Nat → Nat → Option Nat} {h : z_H} {sf mo ou N : Nat}
theorem x_SF_script {w : Int64} (T : q_U L W h0 π h) (k : qκ L sf = 12) (hN : 100000 ≤ N) : qi (f_SF_script N sf w h) (fun r => (∀ E, r.1 = .inr E → ∀ a j, vA r.2 a j = vA h a j) ∧ (∀ v, r.1 = .inl v → vI h (sf + 1) 1 + q_cn w 8 ≤ 240 → ∀ j, 0 ≤ j → vA r.2 (sf + 2) j = x_app w 8 (vA h (sf + 2)) (vI h (sf + 1) 1) j)) := by
  have csf := q_CSF T k
  unfold q_C_SF at csf
  have hrs := q_rowhi T csf.1
  have hcn := q_cnr_8 w
  have U := x_U_of T
  unfold f_SF_script
  rw [q_isText hN w 1 h, z_b_some]
  dsimp only
  refine qi_if (fun c => ?_) (fun c => ?_)
  · exact qi_some ⟨fun _ _ _ _ => rfl, fun v z => by cases z⟩
  · refine l_gR U (d_SF_0 U k) ?_
    rw [q_textLength hN w h, z_b_some]
    dsimp only
    refine qi_b (P := fun _ => True) (fun _ _ => trivial) (fun _ _ => ?_)
    obtain ⟨⟨y6, h6⟩, e6, e6', -⟩ := p_Row_hasRoom (N := N) (v1 := q_cn w 8) T csf.1
    dsimp only at e6'
    rw [e6, z_b_some]
    dsimp only
    rw [e6']
    refine qi_if (fun c2 => ?_) (fun c2 => ?_)
    · exact qi_some ⟨fun _ _ _ _ => rfl, fun v z => by cases z⟩
    · refine l_gR U (d_SF_0 U k) ?_
      intro r e
      obtain ⟨h9, e9, e⟩ := z_bs e
      obtain ⟨x10, e10, e⟩ := z_bs e
      obtain ⟨x11, e11, e⟩ := z_bs e
      cases e
      refine ⟨fun E z => (by cases z), fun v _ rm j j0 => ?_⟩
      have s := x_aT_8 (N := N) (m := N) (w := w) U csf.1 csf.2.1 hrs.2.2.1 ⟨rm, x_rm5 hrs.2.2.1 (csf.2.1 ▸ hrs.2.2.2) hcn⟩ h9 e9
      exact s.2.2 j j0
theorem x_Mod_script {w : Int64} (T : q_U L W h0 π h) (kv0 : q_M L π mo) (wM : ∀ a, mo ≤ a → a < mo + 46 → W a) (hN : 100000 ≤ N) : qi (f_Mod_script N mo w h) (fun r => (q_okc w 1 8 = 0 → ∀ j, vA r.2 (mo + 1) j = vA h (mo + 1) j) ∧ (q_okc w 1 8 ≠ 0 → 240 < vI h mo 3 + q_cn w 8 → ∀ j, vA r.2 (mo + 1) j = vA h (mo + 1) j) ∧ (q_okc w 1 8 ≠ 0 → vI h mo 3 + q_cn w 8 ≤ 240 → ∀ j, 0 ≤ j → vA r.2 (mo + 1) j = x_app w 8 (vA h (mo + 1)) (vI h mo 3) j)) := by
  have U := x_U_of T
  have hcn := q_cnr_8 w
  unfold f_Mod_script
  rcases q_ok01_8 w 1 with z | z
  · have em : f_Mod_measure N w 1 h = some (-1, h) := by rw [q_measure hN w 1 h, z, if_neg (by decide)]
    rw [em, z_b_some]
    dsimp only
    rw [z_b_some, if_neg (by decide)]
    refine qi_b (P := fun _ => True) (fun _ _ => trivial) (fun _ _ => ?_)
    obtain ⟨⟨y8, h8⟩, e8, T8, -, -, a8⟩ := p_Mod_fail (N := N) (v1 := 1) T kv0 wM
    rw [e8, z_b_some]
    exact qi_some ⟨fun _ j => a8 _ j, fun q => absurd z q, fun q => absurd z q⟩
  · have em : f_Mod_measure N w 1 h = some (q_cn w 8, h) := by rw [q_measure hN w 1 h, z, if_pos rfl]
    rw [em, z_b_some]
    dsimp only
    rw [z_b_some, if_pos hcn.1]
    refine l_gI (e := vI h mo 3) rfl ?_
    refine qi_if (fun c => ?_) (fun c => ?_)
    · refine l_sI U (q_Mk kv0) (by decide) rfl ?_
      intro h6 T6 i6 a6
      refine qi_mono (x_sT_8 (N := N) (m := N) (w := w) T6 kv0) ?_
      rintro r ⟨t1, t2, t3, t4⟩
      have e3 : vI h6 mo 3 = vI h mo 3 := by rw [i6 mo 3, if_neg (fun z => absurd z.2 (by decide))]
      refine ⟨fun q => absurd (z.symm.trans q) (by decide), fun _ q => absurd q (Int32.not_lt.mpr c), fun _ _ j j0 => ?_⟩
      rw [t4 j j0, e3, a6]
    · refine qi_b (P := fun _ => True) (fun _ _ => trivial) (fun _ _ => ?_)
      obtain ⟨⟨y8, h8⟩, e8, T8, -, -, a8⟩ := p_Mod_fail (N := N) (v1 := 2) T kv0 wM
      rw [e8, z_b_some]
      exact qi_some ⟨fun _ j => a8 _ j, fun _ _ j => a8 _ j, fun _ q => absurd q c⟩
/-- the class's text behind a script call -/
def q_ST (w : Int64) (sf : Nat) (h h' : z_H) : Prop := (q_okc w 1 8 = 0 → ∀ j, 0 ≤ j → vA h' (sf + 2) j = vA h (sf + 2) j) ∧ (q_okc w 1 8 ≠ 0 → 240 < vI h (sf + 1) 1 + q_cn w 8 → ∀ j, 0 ≤ j → vA h' (sf + 2) j = vA h (sf + 2) j) ∧ (q_okc w 1 8 ≠ 0 → vI h (sf + 1) 1 + q_cn w 8 ≤ 240 → ∀ j, 0 ≤ j → vA h' (sf + 2) j = x_app w 8 (vA h (sf + 2)) (vI h (sf + 1) 1) j)
theorem x_Law_script {w : Int64} (T : q_U L W h0 π h) (k : qκ L sf = 12) (wS : ∀ a, sf ≤ a → a < sf + 552 → W a) (hN : 100000 ≤ N) : qi (f_Law_script N sf w ou h) (fun r => q_ST w sf h r.2) := by
  unfold f_Law_script
  refine qi_b (P := fun _ => True) (fun _ _ => trivial) (fun _ _ => ?_)
  obtain ⟨⟨y, h1⟩, e1, T1, g0, g1, g2, g3, g4⟩ := p_SF_script (N := N) (v1 := w) T k wS hN
  have s := x_SF_script T k hN _ e1
  dsimp only at s g0 g1 g2 T1
  have S : q_ST w sf h h1 := ⟨fun z j j0 => s.1 _ (g0 z).1 _ j, fun z z' j j0 => s.1 _ (g1 z z').1 _ j, fun z z' j j0 => s.2 _ (g2 z z').1 z' j j0⟩
  rw [e1, z_b_some]
  cases y with
  | inl v =>
    show qi (z_b (uL h1 ou 0 (Int32.toInt64 v)) fun h5 => some (0, h5)) _
    refine l_uL (x_U_of T1) ?_
    intro h5 T5 i5 a5
    refine qi_some ?_
    show q_ST w sf h h5
    unfold q_ST
    rw [a5]
    exact S
  | inr E =>
    show qi (if E = xE1 then some (1, h1) else if E = xE2 then some (2, h1) else none) _
    refine qi_if (fun c => ?_) (fun c => ?_)
    · exact qi_some S
    · refine qi_if (fun c => ?_) (fun c => ?_)
      · exact qi_some S
      · intro r e; cases e
theorem x_Law_parse {t : Int32 → Int32} {n : Int32} (T : q_U L W h0 π h) (k : qκ L sf = 12) (wS : ∀ a, sf ≤ a → a < sf + 552 → W a) (ko : qκ L ou = 1 * 1000 + 200) (wo : W ou) (I : q_IC L π h sf) (hN : 100000 ≤ N) (ht : ∀ j, 0 ≤ j → j < n → vA h (sf + 2) j = t j) (hn : vI h (sf + 1) 1 = n) (tp : ∀ j, t j ≠ -1) : qi (f_Law_parse N sf ou h) (fun r => (r.1 = 0 ∧ ∃ s, x_P1 (x_scr t n 0 0 0 (fun _ => 0) (fun _ => -1)) s ∧ aL r.2 ou 0 = some (Int32.toInt64 s)) ∨ (r.1 = 1 ∧ x_P0 (x_scr t n 0 0 0 (fun _ => 0) (fun _ => -1)))) := by
  have csf := q_CSF T k
  unfold q_C_SF at csf
  have hrs := q_rowhi T csf.1
  have l240 : vI h (sf + 1) 1 ≤ 240 := csf.2.1 ▸ hrs.2.2.2
  obtain ⟨nn, c1, c2, c3, c4, c5, c6⟩ := q_CRow T csf.1
  have wc : ∀ j, 0 ≤ vA h ((sf + 1) + 1) j ∧ vA h ((sf + 1) + 1) j ≤ 65535 := fun j => by
    have q := T.2.2.2.2.1 (sf + 1 + 1) j
    rwa [c5, c6] at q
  obtain ⟨p, q, s, t', d, i1, i2, i3, i4, i5, i6, i7, i8⟩ := I
  unfold f_Law_parse
  refine qi_b (P := fun _ => True) (fun _ _ => trivial) (fun _ _ => ?_)
  obtain ⟨⟨y, h1⟩, e1, π1, T1, -⟩ := p_SF_parse (N := N) T k i3 i1 i4 i2 i7 wS (by omega) (by omega) hN
  have s := i_SF_parse (N := N) (x_U_of T) k i4 i2 i3 i1 i7 ht hn (hn ▸ l240) tp (by omega) ⟨hrs.2.2.1, l240⟩ wc _ e1
  dsimp only at s T1
  rw [e1, z_b_some]
  rcases s with ⟨s, ys, P⟩ | ⟨ye, P⟩
  · subst ys
    show qi (z_b (uL h1 ou 0 (Int32.toInt64 s)) fun h5 => some (0, h5)) _
    refine qi_q (w_out T1 ko wo ?_)
    intro h5 T5 i5 a5 o5
    exact qk_some (Or.inl ⟨rfl, s, P, o5⟩)
  · subst ye
    show qi (if xE1 = xE1 then some (1, h1) else none) _
    rw [if_pos rfl]
    exact qi_some (Or.inr ⟨rfl, P⟩)
end TXT
