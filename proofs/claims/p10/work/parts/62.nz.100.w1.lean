/-! what line and more add, on both sides -/
theorem x_rmc {l x b c : Int32} (l0 : 0 ≤ l) (rm : l + (x + 1) ≤ c ∧ 0 ≤ l + (x + 1)) (cr : 0 ≤ x ∧ x ≤ b) (hb : b ≤ 8) (c2 : c ≤ 240) : l < c ∧ 0 ≤ l + 1 ∧ l + 1 + x ≤ c ∧ 0 ≤ l + 1 + x := by
  obtain ⟨r1, r2⟩ := rm
  obtain ⟨c1, c2⟩ := cr
  refine ⟨?_, ?_, ?_, ?_⟩ <;> lia
theorem x_rmk {l x c : Int32} (c2 : c ≤ 240) (rm : l + x ≤ c ∧ 0 ≤ l + x) : l + x ≤ 240 ∧ 0 ≤ l + x := ⟨Int32.le_trans rm.1 c2, rm.2⟩
theorem x_ak_0 (w : Int64) (nl : Int32) (f : Int32 → Int32) (n : Int32) (n0 : 0 ≤ n) (rm : n + q_cn w 0 ≤ 240 ∧ 0 ≤ n + q_cn w 0) (ok : ¬ q_okc w nl 0 = 0) (e : ∀ k, 0 ≤ k → k < n → x_kc (f k)) : ∀ j, 0 ≤ j → j < n + q_cn w 0 → x_kc (x_app w 0 f n j) := by
  intro j j0 jl
  exact e j j0 (by rw [q_cn_0, Int32.add_zero] at jl; exact jl)
theorem x_ak_1 (w : Int64) (nl : Int32) (f : Int32 → Int32) (n : Int32) (n0 : 0 ≤ n) (rm : n + q_cn w 1 ≤ 240 ∧ 0 ≤ n + q_cn w 1) (ok : ¬ q_okc w nl 1 = 0) (e : ∀ k, 0 ≤ k → k < n → x_kc (f k)) : ∀ j, 0 ≤ j → j < n + q_cn w 1 → x_kc (x_app w 1 f n j) := by
  intro j j0 jl
  rw [q_okc_1] at ok
  split at ok
  · next cc =>
    by_cases c : q_by w 7 = 0
    · rw [q_cn_1, if_pos c] at jl rm
      rw [show x_app w 1 f n = x_app w 0 f n from if_pos c]
      exact x_ak_0 w nl f n n0 rm ok e j j0 jl
    · rw [q_cn_1, if_neg c] at jl rm
      have cr := q_cnr_0 w
      rw [show x_app w 1 f n = x_app w 0 (x_up f n (q_by w 7)) (n + 1) from if_neg c]
      refine x_ak_0 w nl _ (n + 1) (x_rm2 n0 rm cr (by decide)) (x_rm3 n0 rm cr (by decide)) ok (fun k k0 kl => ?_) j j0 (by rw [x_rm4]; exact jl)
      by_cases q : k = n
      · rw [q, x_up_s]
        rcases cc with z | z | z
        · exact absurd z c
        · exact Or.inr z
        · exact Or.inl z.2
      · rw [x_up_n q]
        exact e k k0 (x_rm6 n0 (x_rm1 n0 rm cr (by decide)) k0 kl q)
  · exact absurd rfl ok
theorem x_ak_2 (w : Int64) (nl : Int32) (f : Int32 → Int32) (n : Int32) (n0 : 0 ≤ n) (rm : n + q_cn w 2 ≤ 240 ∧ 0 ≤ n + q_cn w 2) (ok : ¬ q_okc w nl 2 = 0) (e : ∀ k, 0 ≤ k → k < n → x_kc (f k)) : ∀ j, 0 ≤ j → j < n + q_cn w 2 → x_kc (x_app w 2 f n j) := by
  intro j j0 jl
  rw [q_okc_2] at ok
  split at ok
  · next cc =>
    by_cases c : q_by w 6 = 0
    · rw [q_cn_2, if_pos c] at jl rm
      rw [show x_app w 2 f n = x_app w 1 f n from if_pos c]
      exact x_ak_1 w nl f n n0 rm ok e j j0 jl
    · rw [q_cn_2, if_neg c] at jl rm
      have cr := q_cnr_1 w
      rw [show x_app w 2 f n = x_app w 1 (x_up f n (q_by w 6)) (n + 1) from if_neg c]
      refine x_ak_1 w nl _ (n + 1) (x_rm2 n0 rm cr (by decide)) (x_rm3 n0 rm cr (by decide)) ok (fun k k0 kl => ?_) j j0 (by rw [x_rm4]; exact jl)
      by_cases q : k = n
      · rw [q, x_up_s]
        rcases cc with z | z | z
        · exact absurd z c
        · exact Or.inr z
        · exact Or.inl z.2
      · rw [x_up_n q]
        exact e k k0 (x_rm6 n0 (x_rm1 n0 rm cr (by decide)) k0 kl q)
  · exact absurd rfl ok
theorem x_ak_3 (w : Int64) (nl : Int32) (f : Int32 → Int32) (n : Int32) (n0 : 0 ≤ n) (rm : n + q_cn w 3 ≤ 240 ∧ 0 ≤ n + q_cn w 3) (ok : ¬ q_okc w nl 3 = 0) (e : ∀ k, 0 ≤ k → k < n → x_kc (f k)) : ∀ j, 0 ≤ j → j < n + q_cn w 3 → x_kc (x_app w 3 f n j) := by
  intro j j0 jl
  rw [q_okc_3] at ok
  split at ok
  · next cc =>
    by_cases c : q_by w 5 = 0
    · rw [q_cn_3, if_pos c] at jl rm
      rw [show x_app w 3 f n = x_app w 2 f n from if_pos c]
      exact x_ak_2 w nl f n n0 rm ok e j j0 jl
    · rw [q_cn_3, if_neg c] at jl rm
      have cr := q_cnr_2 w
      rw [show x_app w 3 f n = x_app w 2 (x_up f n (q_by w 5)) (n + 1) from if_neg c]
      refine x_ak_2 w nl _ (n + 1) (x_rm2 n0 rm cr (by decide)) (x_rm3 n0 rm cr (by decide)) ok (fun k k0 kl => ?_) j j0 (by rw [x_rm4]; exact jl)
      by_cases q : k = n
      · rw [q, x_up_s]
        rcases cc with z | z | z
        · exact absurd z c
        · exact Or.inr z
        · exact Or.inl z.2
      · rw [x_up_n q]
        exact e k k0 (x_rm6 n0 (x_rm1 n0 rm cr (by decide)) k0 kl q)
  · exact absurd rfl ok
theorem x_ak_4 (w : Int64) (nl : Int32) (f : Int32 → Int32) (n : Int32) (n0 : 0 ≤ n) (rm : n + q_cn w 4 ≤ 240 ∧ 0 ≤ n + q_cn w 4) (ok : ¬ q_okc w nl 4 = 0) (e : ∀ k, 0 ≤ k → k < n → x_kc (f k)) : ∀ j, 0 ≤ j → j < n + q_cn w 4 → x_kc (x_app w 4 f n j) := by
  intro j j0 jl
  rw [q_okc_4] at ok
  split at ok
  · next cc =>
    by_cases c : q_by w 4 = 0
    · rw [q_cn_4, if_pos c] at jl rm
      rw [show x_app w 4 f n = x_app w 3 f n from if_pos c]
      exact x_ak_3 w nl f n n0 rm ok e j j0 jl
    · rw [q_cn_4, if_neg c] at jl rm
      have cr := q_cnr_3 w
      rw [show x_app w 4 f n = x_app w 3 (x_up f n (q_by w 4)) (n + 1) from if_neg c]
      refine x_ak_3 w nl _ (n + 1) (x_rm2 n0 rm cr (by decide)) (x_rm3 n0 rm cr (by decide)) ok (fun k k0 kl => ?_) j j0 (by rw [x_rm4]; exact jl)
      by_cases q : k = n
      · rw [q, x_up_s]
        rcases cc with z | z | z
        · exact absurd z c
        · exact Or.inr z
        · exact Or.inl z.2
      · rw [x_up_n q]
        exact e k k0 (x_rm6 n0 (x_rm1 n0 rm cr (by decide)) k0 kl q)
  · exact absurd rfl ok
theorem x_ak_5 (w : Int64) (nl : Int32) (f : Int32 → Int32) (n : Int32) (n0 : 0 ≤ n) (rm : n + q_cn w 5 ≤ 240 ∧ 0 ≤ n + q_cn w 5) (ok : ¬ q_okc w nl 5 = 0) (e : ∀ k, 0 ≤ k → k < n → x_kc (f k)) : ∀ j, 0 ≤ j → j < n + q_cn w 5 → x_kc (x_app w 5 f n j) := by
  intro j j0 jl
  rw [q_okc_5] at ok
  split at ok
  · next cc =>
    by_cases c : q_by w 3 = 0
    · rw [q_cn_5, if_pos c] at jl rm
      rw [show x_app w 5 f n = x_app w 4 f n from if_pos c]
      exact x_ak_4 w nl f n n0 rm ok e j j0 jl
    · rw [q_cn_5, if_neg c] at jl rm
      have cr := q_cnr_4 w
      rw [show x_app w 5 f n = x_app w 4 (x_up f n (q_by w 3)) (n + 1) from if_neg c]
      refine x_ak_4 w nl _ (n + 1) (x_rm2 n0 rm cr (by decide)) (x_rm3 n0 rm cr (by decide)) ok (fun k k0 kl => ?_) j j0 (by rw [x_rm4]; exact jl)
      by_cases q : k = n
      · rw [q, x_up_s]
        rcases cc with z | z | z
        · exact absurd z c
        · exact Or.inr z
        · exact Or.inl z.2
      · rw [x_up_n q]
        exact e k k0 (x_rm6 n0 (x_rm1 n0 rm cr (by decide)) k0 kl q)
  · exact absurd rfl ok
theorem x_ak_6 (w : Int64) (nl : Int32) (f : Int32 → Int32) (n : Int32) (n0 : 0 ≤ n) (rm : n + q_cn w 6 ≤ 240 ∧ 0 ≤ n + q_cn w 6) (ok : ¬ q_okc w nl 6 = 0) (e : ∀ k, 0 ≤ k → k < n → x_kc (f k)) : ∀ j, 0 ≤ j → j < n + q_cn w 6 → x_kc (x_app w 6 f n j) := by
  intro j j0 jl
  rw [q_okc_6] at ok
  split at ok
  · next cc =>
    by_cases c : q_by w 2 = 0
    · rw [q_cn_6, if_pos c] at jl rm
      rw [show x_app w 6 f n = x_app w 5 f n from if_pos c]
      exact x_ak_5 w nl f n n0 rm ok e j j0 jl
    · rw [q_cn_6, if_neg c] at jl rm
      have cr := q_cnr_5 w
      rw [show x_app w 6 f n = x_app w 5 (x_up f n (q_by w 2)) (n + 1) from if_neg c]
      refine x_ak_5 w nl _ (n + 1) (x_rm2 n0 rm cr (by decide)) (x_rm3 n0 rm cr (by decide)) ok (fun k k0 kl => ?_) j j0 (by rw [x_rm4]; exact jl)
      by_cases q : k = n
      · rw [q, x_up_s]
        rcases cc with z | z | z
        · exact absurd z c
        · exact Or.inr z
        · exact Or.inl z.2
      · rw [x_up_n q]
        exact e k k0 (x_rm6 n0 (x_rm1 n0 rm cr (by decide)) k0 kl q)
  · exact absurd rfl ok
theorem x_ak_7 (w : Int64) (nl : Int32) (f : Int32 → Int32) (n : Int32) (n0 : 0 ≤ n) (rm : n + q_cn w 7 ≤ 240 ∧ 0 ≤ n + q_cn w 7) (ok : ¬ q_okc w nl 7 = 0) (e : ∀ k, 0 ≤ k → k < n → x_kc (f k)) : ∀ j, 0 ≤ j → j < n + q_cn w 7 → x_kc (x_app w 7 f n j) := by
  intro j j0 jl
  rw [q_okc_7] at ok
  split at ok
  · next cc =>
    by_cases c : q_by w 1 = 0
    · rw [q_cn_7, if_pos c] at jl rm
      rw [show x_app w 7 f n = x_app w 6 f n from if_pos c]
      exact x_ak_6 w nl f n n0 rm ok e j j0 jl
    · rw [q_cn_7, if_neg c] at jl rm
      have cr := q_cnr_6 w
      rw [show x_app w 7 f n = x_app w 6 (x_up f n (q_by w 1)) (n + 1) from if_neg c]
      refine x_ak_6 w nl _ (n + 1) (x_rm2 n0 rm cr (by decide)) (x_rm3 n0 rm cr (by decide)) ok (fun k k0 kl => ?_) j j0 (by rw [x_rm4]; exact jl)
      by_cases q : k = n
      · rw [q, x_up_s]
        rcases cc with z | z | z
        · exact absurd z c
        · exact Or.inr z
        · exact Or.inl z.2
      · rw [x_up_n q]
        exact e k k0 (x_rm6 n0 (x_rm1 n0 rm cr (by decide)) k0 kl q)
  · exact absurd rfl ok
theorem x_ak_8 (w : Int64) (nl : Int32) (f : Int32 → Int32) (n : Int32) (n0 : 0 ≤ n) (rm : n + q_cn w 8 ≤ 240 ∧ 0 ≤ n + q_cn w 8) (ok : ¬ q_okc w nl 8 = 0) (e : ∀ k, 0 ≤ k → k < n → x_kc (f k)) : ∀ j, 0 ≤ j → j < n + q_cn w 8 → x_kc (x_app w 8 f n j) := by
  intro j j0 jl
  rw [q_okc_8] at ok
  split at ok
  · next cc =>
    by_cases c : q_by w 0 = 0
    · rw [q_cn_8, if_pos c] at jl rm
      rw [show x_app w 8 f n = x_app w 7 f n from if_pos c]
      exact x_ak_7 w nl f n n0 rm ok e j j0 jl
    · rw [q_cn_8, if_neg c] at jl rm
      have cr := q_cnr_7 w
      rw [show x_app w 8 f n = x_app w 7 (x_up f n (q_by w 0)) (n + 1) from if_neg c]
      refine x_ak_7 w nl _ (n + 1) (x_rm2 n0 rm cr (by decide)) (x_rm3 n0 rm cr (by decide)) ok (fun k k0 kl => ?_) j j0 (by rw [x_rm4]; exact jl)
      by_cases q : k = n
      · rw [q, x_up_s]
        rcases cc with z | z | z
        · exact absurd z c
        · exact Or.inr z
        · exact Or.inl z.2
      · rw [x_up_n q]
        exact e k k0 (x_rm6 n0 (x_rm1 n0 rm cr (by decide)) k0 kl q)
  · exact absurd rfl ok
theorem x_aU_0 {c9 : Int32} {L : q_L} {π : Nat → Nat → Option Nat} {N m v0 : Nat} {w : Int64} {h : z_H} (T : x_U L π h) (kv0 : qκ L v0 = 11) (wq : qhi L v0 1 = c9) (c2 : c9 ≤ 240) (l0 : 0 ≤ vI h v0 1) (rm : vI h v0 1 + q_cn w 0 ≤ c9 ∧ 0 ≤ vI h v0 1 + q_cn w 0) : qi (f_SF_addText_2 N m v0 w 8 h) (fun r => x_U L π r ∧ vI r v0 1 = vI h v0 1 + q_cn w 0 ∧ ∀ j, 0 ≤ j → vA r (v0 + 1) j = x_app w 0 (vA h (v0 + 1)) (vI h v0 1) j) := by
  intro r e
  cases m with
  | zero => rw [f_SF_addText_2] at e; cases e
  | succ m =>
    rw [f_SF_addText_2, if_pos (by decide)] at e
    cases e
    exact ⟨T, by rw [q_cn_0, Int32.add_zero], fun j j0 => rfl⟩
theorem x_aU_1 {c9 : Int32} {L : q_L} {π : Nat → Nat → Option Nat} {N m v0 : Nat} {w : Int64} {h : z_H} (T : x_U L π h) (kv0 : qκ L v0 = 11) (wq : qhi L v0 1 = c9) (c2 : c9 ≤ 240) (l0 : 0 ≤ vI h v0 1) (rm : vI h v0 1 + q_cn w 1 ≤ c9 ∧ 0 ≤ vI h v0 1 + q_cn w 1) : qi (f_SF_addText_2 N m v0 w 7 h) (fun r => x_U L π r ∧ vI r v0 1 = vI h v0 1 + q_cn w 1 ∧ ∀ j, 0 ≤ j → vA r (v0 + 1) j = x_app w 1 (vA h (v0 + 1)) (vI h v0 1) j) := by
  intro r e
  cases m with
  | zero => rw [f_SF_addText_2] at e; cases e
  | succ m =>
    rw [f_SF_addText_2, if_neg (by decide)] at e
    have eb : f_SF_byteOf N w 7 h = some (q_by w 7, h) := by rw [← q_by7]; rfl
    rw [eb, z_b_some] at e
    dsimp only at e
    rw [z_b_some] at e
    by_cases c : q_by w 7 = 0
    · rw [if_pos c, z_b_some, show (7 : Int32) + 1 = 8 from by decide] at e
      rw [q_cn_1, if_pos c] at rm
      have s := x_aU_0 T kv0 wq c2 l0 rm r e
      exact ⟨s.1, by rw [q_cn_1, if_pos c]; exact s.2.1, fun j j0 => by rw [show x_app w 1 (vA h (v0 + 1)) (vI h v0 1) = x_app w 0 (vA h (v0 + 1)) (vI h v0 1) from if_pos c]; exact s.2.2 j j0⟩
    · rw [if_neg c] at e
      obtain ⟨_, _, e⟩ := z_bs e
      obtain ⟨h1, e1, e⟩ := z_bs e
      rw [z_b_some, show (7 : Int32) + 1 = 8 from by decide] at e
      rw [q_cn_1, if_neg c] at rm
      have rr := x_rmc l0 rm (q_cnr_0 w) (by decide) c2
      obtain ⟨T1, g0, g1, _, _⟩ := i_Row_add T kv0 (by rw [wq]; exact rr.1) h1 e1
      have s := x_aU_0 T1 kv0 wq c2 (by rw [g0]; exact rr.2.1) (by rw [g0]; exact rr.2.2) r e
      refine ⟨s.1, ?_, fun j j0 => ?_⟩
      · rw [s.2.1, g0, q_cn_1, if_neg c]; exact x_rm4
      · rw [s.2.2 j j0, g0, show x_app w 1 (vA h (v0 + 1)) (vI h v0 1) = x_app w 0 (x_up (vA h (v0 + 1)) (vI h v0 1) (q_by w 7)) (vI h v0 1 + 1) from if_neg c]
        refine x_app_cg w 0 _ _ _ (fun k k0 => ?_) j j0
        rw [g1 k k0]
        unfold x_up
        rw [x_nar2 (x_byr w 7).1 (x_byr w 7).2]
theorem x_aU_2 {c9 : Int32} {L : q_L} {π : Nat → Nat → Option Nat} {N m v0 : Nat} {w : Int64} {h : z_H} (T : x_U L π h) (kv0 : qκ L v0 = 11) (wq : qhi L v0 1 = c9) (c2 : c9 ≤ 240) (l0 : 0 ≤ vI h v0 1) (rm : vI h v0 1 + q_cn w 2 ≤ c9 ∧ 0 ≤ vI h v0 1 + q_cn w 2) : qi (f_SF_addText_2 N m v0 w 6 h) (fun r => x_U L π r ∧ vI r v0 1 = vI h v0 1 + q_cn w 2 ∧ ∀ j, 0 ≤ j → vA r (v0 + 1) j = x_app w 2 (vA h (v0 + 1)) (vI h v0 1) j) := by
  intro r e
  cases m with
  | zero => rw [f_SF_addText_2] at e; cases e
  | succ m =>
    rw [f_SF_addText_2, if_neg (by decide)] at e
    have eb : f_SF_byteOf N w 6 h = some (q_by w 6, h) := by rw [← q_by6]; rfl
    rw [eb, z_b_some] at e
    dsimp only at e
    rw [z_b_some] at e
    by_cases c : q_by w 6 = 0
    · rw [if_pos c, z_b_some, show (6 : Int32) + 1 = 7 from by decide] at e
      rw [q_cn_2, if_pos c] at rm
      have s := x_aU_1 T kv0 wq c2 l0 rm r e
      exact ⟨s.1, by rw [q_cn_2, if_pos c]; exact s.2.1, fun j j0 => by rw [show x_app w 2 (vA h (v0 + 1)) (vI h v0 1) = x_app w 1 (vA h (v0 + 1)) (vI h v0 1) from if_pos c]; exact s.2.2 j j0⟩
    · rw [if_neg c] at e
      obtain ⟨_, _, e⟩ := z_bs e
      obtain ⟨h1, e1, e⟩ := z_bs e
      rw [z_b_some, show (6 : Int32) + 1 = 7 from by decide] at e
      rw [q_cn_2, if_neg c] at rm
      have rr := x_rmc l0 rm (q_cnr_1 w) (by decide) c2
      obtain ⟨T1, g0, g1, _, _⟩ := i_Row_add T kv0 (by rw [wq]; exact rr.1) h1 e1
      have s := x_aU_1 T1 kv0 wq c2 (by rw [g0]; exact rr.2.1) (by rw [g0]; exact rr.2.2) r e
      refine ⟨s.1, ?_, fun j j0 => ?_⟩
      · rw [s.2.1, g0, q_cn_2, if_neg c]; exact x_rm4
      · rw [s.2.2 j j0, g0, show x_app w 2 (vA h (v0 + 1)) (vI h v0 1) = x_app w 1 (x_up (vA h (v0 + 1)) (vI h v0 1) (q_by w 6)) (vI h v0 1 + 1) from if_neg c]
        refine x_app_cg w 1 _ _ _ (fun k k0 => ?_) j j0
        rw [g1 k k0]
        unfold x_up
        rw [x_nar2 (x_byr w 6).1 (x_byr w 6).2]
theorem x_aU_3 {c9 : Int32} {L : q_L} {π : Nat → Nat → Option Nat} {N m v0 : Nat} {w : Int64} {h : z_H} (T : x_U L π h) (kv0 : qκ L v0 = 11) (wq : qhi L v0 1 = c9) (c2 : c9 ≤ 240) (l0 : 0 ≤ vI h v0 1) (rm : vI h v0 1 + q_cn w 3 ≤ c9 ∧ 0 ≤ vI h v0 1 + q_cn w 3) : qi (f_SF_addText_2 N m v0 w 5 h) (fun r => x_U L π r ∧ vI r v0 1 = vI h v0 1 + q_cn w 3 ∧ ∀ j, 0 ≤ j → vA r (v0 + 1) j = x_app w 3 (vA h (v0 + 1)) (vI h v0 1) j) := by
  intro r e
  cases m with
  | zero => rw [f_SF_addText_2] at e; cases e
  | succ m =>
    rw [f_SF_addText_2, if_neg (by decide)] at e
    have eb : f_SF_byteOf N w 5 h = some (q_by w 5, h) := by rw [← q_by5]; rfl
    rw [eb, z_b_some] at e
    dsimp only at e
    rw [z_b_some] at e
    by_cases c : q_by w 5 = 0
    · rw [if_pos c, z_b_some, show (5 : Int32) + 1 = 6 from by decide] at e
      rw [q_cn_3, if_pos c] at rm
      have s := x_aU_2 T kv0 wq c2 l0 rm r e
      exact ⟨s.1, by rw [q_cn_3, if_pos c]; exact s.2.1, fun j j0 => by rw [show x_app w 3 (vA h (v0 + 1)) (vI h v0 1) = x_app w 2 (vA h (v0 + 1)) (vI h v0 1) from if_pos c]; exact s.2.2 j j0⟩
    · rw [if_neg c] at e
      obtain ⟨_, _, e⟩ := z_bs e
      obtain ⟨h1, e1, e⟩ := z_bs e
      rw [z_b_some, show (5 : Int32) + 1 = 6 from by decide] at e
      rw [q_cn_3, if_neg c] at rm
      have rr := x_rmc l0 rm (q_cnr_2 w) (by decide) c2
      obtain ⟨T1, g0, g1, _, _⟩ := i_Row_add T kv0 (by rw [wq]; exact rr.1) h1 e1
      have s := x_aU_2 T1 kv0 wq c2 (by rw [g0]; exact rr.2.1) (by rw [g0]; exact rr.2.2) r e
      refine ⟨s.1, ?_, fun j j0 => ?_⟩
      · rw [s.2.1, g0, q_cn_3, if_neg c]; exact x_rm4
      · rw [s.2.2 j j0, g0, show x_app w 3 (vA h (v0 + 1)) (vI h v0 1) = x_app w 2 (x_up (vA h (v0 + 1)) (vI h v0 1) (q_by w 5)) (vI h v0 1 + 1) from if_neg c]
        refine x_app_cg w 2 _ _ _ (fun k k0 => ?_) j j0
        rw [g1 k k0]
        unfold x_up
        rw [x_nar2 (x_byr w 5).1 (x_byr w 5).2]
theorem x_aU_4 {c9 : Int32} {L : q_L} {π : Nat → Nat → Option Nat} {N m v0 : Nat} {w : Int64} {h : z_H} (T : x_U L π h) (kv0 : qκ L v0 = 11) (wq : qhi L v0 1 = c9) (c2 : c9 ≤ 240) (l0 : 0 ≤ vI h v0 1) (rm : vI h v0 1 + q_cn w 4 ≤ c9 ∧ 0 ≤ vI h v0 1 + q_cn w 4) : qi (f_SF_addText_2 N m v0 w 4 h) (fun r => x_U L π r ∧ vI r v0 1 = vI h v0 1 + q_cn w 4 ∧ ∀ j, 0 ≤ j → vA r (v0 + 1) j = x_app w 4 (vA h (v0 + 1)) (vI h v0 1) j) := by
  intro r e
  cases m with
  | zero => rw [f_SF_addText_2] at e; cases e
  | succ m =>
    rw [f_SF_addText_2, if_neg (by decide)] at e
    have eb : f_SF_byteOf N w 4 h = some (q_by w 4, h) := by rw [← q_by4]; rfl
    rw [eb, z_b_some] at e
    dsimp only at e
    rw [z_b_some] at e
    by_cases c : q_by w 4 = 0
    · rw [if_pos c, z_b_some, show (4 : Int32) + 1 = 5 from by decide] at e
      rw [q_cn_4, if_pos c] at rm
      have s := x_aU_3 T kv0 wq c2 l0 rm r e
      exact ⟨s.1, by rw [q_cn_4, if_pos c]; exact s.2.1, fun j j0 => by rw [show x_app w 4 (vA h (v0 + 1)) (vI h v0 1) = x_app w 3 (vA h (v0 + 1)) (vI h v0 1) from if_pos c]; exact s.2.2 j j0⟩
    · rw [if_neg c] at e
      obtain ⟨_, _, e⟩ := z_bs e
      obtain ⟨h1, e1, e⟩ := z_bs e
      rw [z_b_some, show (4 : Int32) + 1 = 5 from by decide] at e
      rw [q_cn_4, if_neg c] at rm
      have rr := x_rmc l0 rm (q_cnr_3 w) (by decide) c2
      obtain ⟨T1, g0, g1, _, _⟩ := i_Row_add T kv0 (by rw [wq]; exact rr.1) h1 e1
      have s := x_aU_3 T1 kv0 wq c2 (by rw [g0]; exact rr.2.1) (by rw [g0]; exact rr.2.2) r e
      refine ⟨s.1, ?_, fun j j0 => ?_⟩
      · rw [s.2.1, g0, q_cn_4, if_neg c]; exact x_rm4
      · rw [s.2.2 j j0, g0, show x_app w 4 (vA h (v0 + 1)) (vI h v0 1) = x_app w 3 (x_up (vA h (v0 + 1)) (vI h v0 1) (q_by w 4)) (vI h v0 1 + 1) from if_neg c]
        refine x_app_cg w 3 _ _ _ (fun k k0 => ?_) j j0
        rw [g1 k k0]
        unfold x_up
        rw [x_nar2 (x_byr w 4).1 (x_byr w 4).2]
theorem x_aU_5 {c9 : Int32} {L : q_L} {π : Nat → Nat → Option Nat} {N m v0 : Nat} {w : Int64} {h : z_H} (T : x_U L π h) (kv0 : qκ L v0 = 11) (wq : qhi L v0 1 = c9) (c2 : c9 ≤ 240) (l0 : 0 ≤ vI h v0 1) (rm : vI h v0 1 + q_cn w 5 ≤ c9 ∧ 0 ≤ vI h v0 1 + q_cn w 5) : qi (f_SF_addText_2 N m v0 w 3 h) (fun r => x_U L π r ∧ vI r v0 1 = vI h v0 1 + q_cn w 5 ∧ ∀ j, 0 ≤ j → vA r (v0 + 1) j = x_app w 5 (vA h (v0 + 1)) (vI h v0 1) j) := by
  intro r e
  cases m with
  | zero => rw [f_SF_addText_2] at e; cases e
  | succ m =>
    rw [f_SF_addText_2, if_neg (by decide)] at e
    have eb : f_SF_byteOf N w 3 h = some (q_by w 3, h) := by rw [← q_by3]; rfl
    rw [eb, z_b_some] at e
    dsimp only at e
    rw [z_b_some] at e
    by_cases c : q_by w 3 = 0
    · rw [if_pos c, z_b_some, show (3 : Int32) + 1 = 4 from by decide] at e
      rw [q_cn_5, if_pos c] at rm
      have s := x_aU_4 T kv0 wq c2 l0 rm r e
      exact ⟨s.1, by rw [q_cn_5, if_pos c]; exact s.2.1, fun j j0 => by rw [show x_app w 5 (vA h (v0 + 1)) (vI h v0 1) = x_app w 4 (vA h (v0 + 1)) (vI h v0 1) from if_pos c]; exact s.2.2 j j0⟩
    · rw [if_neg c] at e
      obtain ⟨_, _, e⟩ := z_bs e
      obtain ⟨h1, e1, e⟩ := z_bs e
      rw [z_b_some, show (3 : Int32) + 1 = 4 from by decide] at e
      rw [q_cn_5, if_neg c] at rm
      have rr := x_rmc l0 rm (q_cnr_4 w) (by decide) c2
      obtain ⟨T1, g0, g1, _, _⟩ := i_Row_add T kv0 (by rw [wq]; exact rr.1) h1 e1
      have s := x_aU_4 T1 kv0 wq c2 (by rw [g0]; exact rr.2.1) (by rw [g0]; exact rr.2.2) r e
      refine ⟨s.1, ?_, fun j j0 => ?_⟩
      · rw [s.2.1, g0, q_cn_5, if_neg c]; exact x_rm4
      · rw [s.2.2 j j0, g0, show x_app w 5 (vA h (v0 + 1)) (vI h v0 1) = x_app w 4 (x_up (vA h (v0 + 1)) (vI h v0 1) (q_by w 3)) (vI h v0 1 + 1) from if_neg c]
        refine x_app_cg w 4 _ _ _ (fun k k0 => ?_) j j0
        rw [g1 k k0]
        unfold x_up
        rw [x_nar2 (x_byr w 3).1 (x_byr w 3).2]
theorem x_aU_6 {c9 : Int32} {L : q_L} {π : Nat → Nat → Option Nat} {N m v0 : Nat} {w : Int64} {h : z_H} (T : x_U L π h) (kv0 : qκ L v0 = 11) (wq : qhi L v0 1 = c9) (c2 : c9 ≤ 240) (l0 : 0 ≤ vI h v0 1) (rm : vI h v0 1 + q_cn w 6 ≤ c9 ∧ 0 ≤ vI h v0 1 + q_cn w 6) : qi (f_SF_addText_2 N m v0 w 2 h) (fun r => x_U L π r ∧ vI r v0 1 = vI h v0 1 + q_cn w 6 ∧ ∀ j, 0 ≤ j → vA r (v0 + 1) j = x_app w 6 (vA h (v0 + 1)) (vI h v0 1) j) := by
  intro r e
  cases m with
  | zero => rw [f_SF_addText_2] at e; cases e
  | succ m =>
    rw [f_SF_addText_2, if_neg (by decide)] at e
    have eb : f_SF_byteOf N w 2 h = some (q_by w 2, h) := by rw [← q_by2]; rfl
    rw [eb, z_b_some] at e
    dsimp only at e
    rw [z_b_some] at e
    by_cases c : q_by w 2 = 0
    · rw [if_pos c, z_b_some, show (2 : Int32) + 1 = 3 from by decide] at e
      rw [q_cn_6, if_pos c] at rm
      have s := x_aU_5 T kv0 wq c2 l0 rm r e
      exact ⟨s.1, by rw [q_cn_6, if_pos c]; exact s.2.1, fun j j0 => by rw [show x_app w 6 (vA h (v0 + 1)) (vI h v0 1) = x_app w 5 (vA h (v0 + 1)) (vI h v0 1) from if_pos c]; exact s.2.2 j j0⟩
    · rw [if_neg c] at e
      obtain ⟨_, _, e⟩ := z_bs e
      obtain ⟨h1, e1, e⟩ := z_bs e
      rw [z_b_some, show (2 : Int32) + 1 = 3 from by decide] at e
      rw [q_cn_6, if_neg c] at rm
      have rr := x_rmc l0 rm (q_cnr_5 w) (by decide) c2
      obtain ⟨T1, g0, g1, _, _⟩ := i_Row_add T kv0 (by rw [wq]; exact rr.1) h1 e1
      have s := x_aU_5 T1 kv0 wq c2 (by rw [g0]; exact rr.2.1) (by rw [g0]; exact rr.2.2) r e
      refine ⟨s.1, ?_, fun j j0 => ?_⟩
      · rw [s.2.1, g0, q_cn_6, if_neg c]; exact x_rm4
      · rw [s.2.2 j j0, g0, show x_app w 6 (vA h (v0 + 1)) (vI h v0 1) = x_app w 5 (x_up (vA h (v0 + 1)) (vI h v0 1) (q_by w 2)) (vI h v0 1 + 1) from if_neg c]
        refine x_app_cg w 5 _ _ _ (fun k k0 => ?_) j j0
        rw [g1 k k0]
        unfold x_up
        rw [x_nar2 (x_byr w 2).1 (x_byr w 2).2]
theorem x_aU_7 {c9 : Int32} {L : q_L} {π : Nat → Nat → Option Nat} {N m v0 : Nat} {w : Int64} {h : z_H} (T : x_U L π h) (kv0 : qκ L v0 = 11) (wq : qhi L v0 1 = c9) (c2 : c9 ≤ 240) (l0 : 0 ≤ vI h v0 1) (rm : vI h v0 1 + q_cn w 7 ≤ c9 ∧ 0 ≤ vI h v0 1 + q_cn w 7) : qi (f_SF_addText_2 N m v0 w 1 h) (fun r => x_U L π r ∧ vI r v0 1 = vI h v0 1 + q_cn w 7 ∧ ∀ j, 0 ≤ j → vA r (v0 + 1) j = x_app w 7 (vA h (v0 + 1)) (vI h v0 1) j) := by
  intro r e
  cases m with
  | zero => rw [f_SF_addText_2] at e; cases e
  | succ m =>
    rw [f_SF_addText_2, if_neg (by decide)] at e
    have eb : f_SF_byteOf N w 1 h = some (q_by w 1, h) := by rw [← q_by1]; rfl
    rw [eb, z_b_some] at e
    dsimp only at e
    rw [z_b_some] at e
    by_cases c : q_by w 1 = 0
    · rw [if_pos c, z_b_some, show (1 : Int32) + 1 = 2 from by decide] at e
      rw [q_cn_7, if_pos c] at rm
      have s := x_aU_6 T kv0 wq c2 l0 rm r e
      exact ⟨s.1, by rw [q_cn_7, if_pos c]; exact s.2.1, fun j j0 => by rw [show x_app w 7 (vA h (v0 + 1)) (vI h v0 1) = x_app w 6 (vA h (v0 + 1)) (vI h v0 1) from if_pos c]; exact s.2.2 j j0⟩
    · rw [if_neg c] at e
      obtain ⟨_, _, e⟩ := z_bs e
      obtain ⟨h1, e1, e⟩ := z_bs e
      rw [z_b_some, show (1 : Int32) + 1 = 2 from by decide] at e
      rw [q_cn_7, if_neg c] at rm
      have rr := x_rmc l0 rm (q_cnr_6 w) (by decide) c2
      obtain ⟨T1, g0, g1, _, _⟩ := i_Row_add T kv0 (by rw [wq]; exact rr.1) h1 e1
      have s := x_aU_6 T1 kv0 wq c2 (by rw [g0]; exact rr.2.1) (by rw [g0]; exact rr.2.2) r e
      refine ⟨s.1, ?_, fun j j0 => ?_⟩
      · rw [s.2.1, g0, q_cn_7, if_neg c]; exact x_rm4
      · rw [s.2.2 j j0, g0, show x_app w 7 (vA h (v0 + 1)) (vI h v0 1) = x_app w 6 (x_up (vA h (v0 + 1)) (vI h v0 1) (q_by w 1)) (vI h v0 1 + 1) from if_neg c]
        refine x_app_cg w 6 _ _ _ (fun k k0 => ?_) j j0
        rw [g1 k k0]
        unfold x_up
        rw [x_nar2 (x_byr w 1).1 (x_byr w 1).2]
theorem x_aU_8 {c9 : Int32} {L : q_L} {π : Nat → Nat → Option Nat} {N m v0 : Nat} {w : Int64} {h : z_H} (T : x_U L π h) (kv0 : qκ L v0 = 11) (wq : qhi L v0 1 = c9) (c2 : c9 ≤ 240) (l0 : 0 ≤ vI h v0 1) (rm : vI h v0 1 + q_cn w 8 ≤ c9 ∧ 0 ≤ vI h v0 1 + q_cn w 8) : qi (f_SF_addText_2 N m v0 w 0 h) (fun r => x_U L π r ∧ vI r v0 1 = vI h v0 1 + q_cn w 8 ∧ ∀ j, 0 ≤ j → vA r (v0 + 1) j = x_app w 8 (vA h (v0 + 1)) (vI h v0 1) j) := by
  intro r e
  cases m with
  | zero => rw [f_SF_addText_2] at e; cases e
  | succ m =>
    rw [f_SF_addText_2, if_neg (by decide)] at e
    have eb : f_SF_byteOf N w 0 h = some (q_by w 0, h) := by rw [← q_by0]; rfl
    rw [eb, z_b_some] at e
    dsimp only at e
    rw [z_b_some] at e
    by_cases c : q_by w 0 = 0
    · rw [if_pos c, z_b_some, show (0 : Int32) + 1 = 1 from by decide] at e
      rw [q_cn_8, if_pos c] at rm
      have s := x_aU_7 T kv0 wq c2 l0 rm r e
      exact ⟨s.1, by rw [q_cn_8, if_pos c]; exact s.2.1, fun j j0 => by rw [show x_app w 8 (vA h (v0 + 1)) (vI h v0 1) = x_app w 7 (vA h (v0 + 1)) (vI h v0 1) from if_pos c]; exact s.2.2 j j0⟩
    · rw [if_neg c] at e
      obtain ⟨_, _, e⟩ := z_bs e
      obtain ⟨h1, e1, e⟩ := z_bs e
      rw [z_b_some, show (0 : Int32) + 1 = 1 from by decide] at e
      rw [q_cn_8, if_neg c] at rm
      have rr := x_rmc l0 rm (q_cnr_7 w) (by decide) c2
      obtain ⟨T1, g0, g1, _, _⟩ := i_Row_add T kv0 (by rw [wq]; exact rr.1) h1 e1
      have s := x_aU_7 T1 kv0 wq c2 (by rw [g0]; exact rr.2.1) (by rw [g0]; exact rr.2.2) r e
      refine ⟨s.1, ?_, fun j j0 => ?_⟩
      · rw [s.2.1, g0, q_cn_8, if_neg c]; exact x_rm4
      · rw [s.2.2 j j0, g0, show x_app w 8 (vA h (v0 + 1)) (vI h v0 1) = x_app w 7 (x_up (vA h (v0 + 1)) (vI h v0 1) (q_by w 0)) (vI h v0 1 + 1) from if_neg c]
        refine x_app_cg w 7 _ _ _ (fun k k0 => ?_) j j0
        rw [g1 k k0]
        unfold x_up
        rw [x_nar2 (x_byr w 0).1 (x_byr w 0).2]
theorem x_uT_0 {L : q_L} {π : Nat → Nat → Option Nat} {N m v0 : Nat} {w : Int64} {h : z_H} (T : x_U L π h) {v1 : Int32} (kv0 : q_M L π v0) (p0 : 0 ≤ v1) (p1 : v1 < 12) (l0 : 0 ≤ vA h (v0 + 2) v1) (rm : vA h (v0 + 2) v1 + q_cn w 0 ≤ 24 ∧ 0 ≤ vA h (v0 + 2) v1 + q_cn w 0) : qi (f_Mod_addTo_4 N m v0 v1 w (-8) h) (fun r => x_U L π r ∧ (∀ a, a ≠ v0 + 2 → a ≠ v0 + 3 → r a = h a) ∧ vA r (v0 + 2) v1 = vA h (v0 + 2) v1 + q_cn w 0 ∧ (∀ j, 0 ≤ j → ¬ j = v1 → vA r (v0 + 2) j = vA h (v0 + 2) j) ∧ (∀ j, 0 ≤ j → j < vA h (v0 + 2) v1 + q_cn w 0 → vA r (v0 + 3) (24 * v1 + j) = x_app w 0 (fun j => vA h (v0 + 3) (24 * v1 + j)) (vA h (v0 + 2) v1) j) ∧ ∀ j, 0 ≤ j → j < 24 * v1 ∨ 24 * v1 + 24 ≤ j → vA r (v0 + 3) j = vA h (v0 + 3) j) := by
  cases m with
  | zero => intro r e; rw [f_Mod_addTo_4] at e; cases e
  | succ m =>
    rw [f_Mod_addTo_4, if_pos (by decide)]
    refine qi_some ⟨T, fun _ _ _ => rfl, ?_, fun _ _ _ => rfl, fun j j0 jl => rfl, fun _ _ _ => rfl⟩
    rw [q_cn_0, Int32.add_zero]
theorem x_uT_1 {L : q_L} {π : Nat → Nat → Option Nat} {N m v0 : Nat} {w : Int64} {h : z_H} (T : x_U L π h) {v1 : Int32} (kv0 : q_M L π v0) (p0 : 0 ≤ v1) (p1 : v1 < 12) (l0 : 0 ≤ vA h (v0 + 2) v1) (rm : vA h (v0 + 2) v1 + q_cn w 1 ≤ 24 ∧ 0 ≤ vA h (v0 + 2) v1 + q_cn w 1) : qi (f_Mod_addTo_4 N m v0 v1 w 0 h) (fun r => x_U L π r ∧ (∀ a, a ≠ v0 + 2 → a ≠ v0 + 3 → r a = h a) ∧ vA r (v0 + 2) v1 = vA h (v0 + 2) v1 + q_cn w 1 ∧ (∀ j, 0 ≤ j → ¬ j = v1 → vA r (v0 + 2) j = vA h (v0 + 2) j) ∧ (∀ j, 0 ≤ j → j < vA h (v0 + 2) v1 + q_cn w 1 → vA r (v0 + 3) (24 * v1 + j) = x_app w 1 (fun j => vA h (v0 + 3) (24 * v1 + j)) (vA h (v0 + 2) v1) j) ∧ ∀ j, 0 ≤ j → j < 24 * v1 ∨ 24 * v1 + 24 ≤ j → vA r (v0 + 3) j = vA h (v0 + 3) j) := by
  cases m with
  | zero => intro r e; rw [f_Mod_addTo_4] at e; cases e
  | succ m =>
    rw [f_Mod_addTo_4, if_neg (by decide)]
    refine qi_bs ?_
    have eb : (Int64.toInt32 (w >>> (Int32.toInt64 0 &&& 63))) &&& 255 = q_by w 7 := rfl
    rw [eb]
    refine qi_if (fun c => ?_) (fun c => ?_)
    · refine qi_bs ?_
      rw [q_cn_1, if_pos c] at rm
      rw [show (0 : Int32) + (-8) = (-8) from by decide, q_cn_1, if_pos c, show x_app w 1 (fun j => vA h (v0 + 3) (24 * v1 + j)) (vA h (v0 + 2) v1) = x_app w 0 (fun j => vA h (v0 + 3) (24 * v1 + j)) (vA h (v0 + 2) v1) from if_pos c]
      exact x_uT_0 T kv0 p0 p1 l0 rm
    · rw [q_cn_1, if_neg c] at rm
      have cr := q_cnr_0 w
      have rr := x_rmc l0 rm cr (by decide) (by decide)
      refine l_gR T (d_Mo_2 kv0) ?_
      refine l_gR T (d_Mo_1 kv0) ?_
      refine l_aI (e := vA h (v0 + 2) v1) (fun _ => rfl) (fun _ => ?_)
      refine l_uIc T ?_
      intro h7 T7 j7 c7 a7
      refine l_gR T7 (d_Mo_1 kv0) ?_
      have e7 : vA h7 (v0 + 2) = vA h (v0 + 2) := x_vA_c (c7 (v0 + 2) (by omega))
      refine l_aI (e := vA h (v0 + 2) v1) (fun _ => by rw [e7]) (fun _ => ?_)
      refine l_uIc T7 ?_
      intro h10 T10 j10 c10 a10
      refine qi_bs ?_
      rw [show (0 : Int32) + (-8) = (-8) from by decide]
      have n2 : vA h10 (v0 + 2) v1 = vA h (v0 + 2) v1 + 1 := by rw [a10 v1 p0, if_pos rfl]
      have e3 : vA h10 (v0 + 3) = vA h7 (v0 + 3) := x_vA_c (c10 (v0 + 3) (by omega))
      refine qi_mono (x_uT_0 T10 kv0 p0 p1 (by rw [n2]; exact rr.2.1) (by rw [n2]; exact rr.2.2)) ?_
      rintro r ⟨t1, t2, t3, t4, t5, t6⟩
      rw [n2] at t3 t5
      refine ⟨t1, fun a h1 h2 => (t2 a h1 h2).trans ((c10 a h1).trans (c7 a h2)), ?_, fun j j0 jn => ?_, fun j j0 jl => ?_, fun j j0 jj => ?_⟩
      · rw [t3, q_cn_1, if_neg c]; exact x_rm4
      · rw [t4 j j0 jn, a10 j j0, if_neg jn, e7]
      · rw [q_cn_1, if_neg c] at jl
        rw [t5 j j0 (by rw [x_rm4]; exact jl), show x_app w 1 (fun j => vA h (v0 + 3) (24 * v1 + j)) (vA h (v0 + 2) v1) = x_app w 0 (x_up (fun j => vA h (v0 + 3) (24 * v1 + j)) (vA h (v0 + 2) v1) (q_by w 7)) (vA h (v0 + 2) v1 + 1) from if_neg c]
        refine x_al_0 w _ _ _ rr.2.1 (x_rmk (by decide) rr.2.2) (fun k k0 kl => ?_) j j0 (by rw [x_rm4]; exact jl)
        have l24 := rr.1
        rw [e3, a7 _ (by lia)]
        unfold x_up
        by_cases q : k = vA h (v0 + 2) v1
        · rw [if_pos (by rw [q]), if_pos q]
        · rw [if_neg (fun z => q (by lia)), if_neg q]
      · have l24 := rr.1
        rw [t6 j j0 jj, e3, a7 j j0, if_neg]
        intro z
        rw [z] at jj
        rcases jj with y | y <;> lia
theorem x_uT_2 {L : q_L} {π : Nat → Nat → Option Nat} {N m v0 : Nat} {w : Int64} {h : z_H} (T : x_U L π h) {v1 : Int32} (kv0 : q_M L π v0) (p0 : 0 ≤ v1) (p1 : v1 < 12) (l0 : 0 ≤ vA h (v0 + 2) v1) (rm : vA h (v0 + 2) v1 + q_cn w 2 ≤ 24 ∧ 0 ≤ vA h (v0 + 2) v1 + q_cn w 2) : qi (f_Mod_addTo_4 N m v0 v1 w 8 h) (fun r => x_U L π r ∧ (∀ a, a ≠ v0 + 2 → a ≠ v0 + 3 → r a = h a) ∧ vA r (v0 + 2) v1 = vA h (v0 + 2) v1 + q_cn w 2 ∧ (∀ j, 0 ≤ j → ¬ j = v1 → vA r (v0 + 2) j = vA h (v0 + 2) j) ∧ (∀ j, 0 ≤ j → j < vA h (v0 + 2) v1 + q_cn w 2 → vA r (v0 + 3) (24 * v1 + j) = x_app w 2 (fun j => vA h (v0 + 3) (24 * v1 + j)) (vA h (v0 + 2) v1) j) ∧ ∀ j, 0 ≤ j → j < 24 * v1 ∨ 24 * v1 + 24 ≤ j → vA r (v0 + 3) j = vA h (v0 + 3) j) := by
  cases m with
  | zero => intro r e; rw [f_Mod_addTo_4] at e; cases e
  | succ m =>
    rw [f_Mod_addTo_4, if_neg (by decide)]
    refine qi_bs ?_
    have eb : (Int64.toInt32 (w >>> (Int32.toInt64 8 &&& 63))) &&& 255 = q_by w 6 := rfl
    rw [eb]
    refine qi_if (fun c => ?_) (fun c => ?_)
    · refine qi_bs ?_
      rw [q_cn_2, if_pos c] at rm
      rw [show (8 : Int32) + (-8) = 0 from by decide, q_cn_2, if_pos c, show x_app w 2 (fun j => vA h (v0 + 3) (24 * v1 + j)) (vA h (v0 + 2) v1) = x_app w 1 (fun j => vA h (v0 + 3) (24 * v1 + j)) (vA h (v0 + 2) v1) from if_pos c]
      exact x_uT_1 T kv0 p0 p1 l0 rm
    · rw [q_cn_2, if_neg c] at rm
      have cr := q_cnr_1 w
      have rr := x_rmc l0 rm cr (by decide) (by decide)
      refine l_gR T (d_Mo_2 kv0) ?_
      refine l_gR T (d_Mo_1 kv0) ?_
      refine l_aI (e := vA h (v0 + 2) v1) (fun _ => rfl) (fun _ => ?_)
      refine l_uIc T ?_
      intro h7 T7 j7 c7 a7
      refine l_gR T7 (d_Mo_1 kv0) ?_
      have e7 : vA h7 (v0 + 2) = vA h (v0 + 2) := x_vA_c (c7 (v0 + 2) (by omega))
      refine l_aI (e := vA h (v0 + 2) v1) (fun _ => by rw [e7]) (fun _ => ?_)
      refine l_uIc T7 ?_
      intro h10 T10 j10 c10 a10
      refine qi_bs ?_
      rw [show (8 : Int32) + (-8) = 0 from by decide]
      have n2 : vA h10 (v0 + 2) v1 = vA h (v0 + 2) v1 + 1 := by rw [a10 v1 p0, if_pos rfl]
      have e3 : vA h10 (v0 + 3) = vA h7 (v0 + 3) := x_vA_c (c10 (v0 + 3) (by omega))
      refine qi_mono (x_uT_1 T10 kv0 p0 p1 (by rw [n2]; exact rr.2.1) (by rw [n2]; exact rr.2.2)) ?_
      rintro r ⟨t1, t2, t3, t4, t5, t6⟩
      rw [n2] at t3 t5
      refine ⟨t1, fun a h1 h2 => (t2 a h1 h2).trans ((c10 a h1).trans (c7 a h2)), ?_, fun j j0 jn => ?_, fun j j0 jl => ?_, fun j j0 jj => ?_⟩
      · rw [t3, q_cn_2, if_neg c]; exact x_rm4
      · rw [t4 j j0 jn, a10 j j0, if_neg jn, e7]
      · rw [q_cn_2, if_neg c] at jl
        rw [t5 j j0 (by rw [x_rm4]; exact jl), show x_app w 2 (fun j => vA h (v0 + 3) (24 * v1 + j)) (vA h (v0 + 2) v1) = x_app w 1 (x_up (fun j => vA h (v0 + 3) (24 * v1 + j)) (vA h (v0 + 2) v1) (q_by w 6)) (vA h (v0 + 2) v1 + 1) from if_neg c]
        refine x_al_1 w _ _ _ rr.2.1 (x_rmk (by decide) rr.2.2) (fun k k0 kl => ?_) j j0 (by rw [x_rm4]; exact jl)
        have l24 := rr.1
        rw [e3, a7 _ (by lia)]
        unfold x_up
        by_cases q : k = vA h (v0 + 2) v1
        · rw [if_pos (by rw [q]), if_pos q]
        · rw [if_neg (fun z => q (by lia)), if_neg q]
      · have l24 := rr.1
        rw [t6 j j0 jj, e3, a7 j j0, if_neg]
        intro z
        rw [z] at jj
        rcases jj with y | y <;> lia
theorem x_uT_3 {L : q_L} {π : Nat → Nat → Option Nat} {N m v0 : Nat} {w : Int64} {h : z_H} (T : x_U L π h) {v1 : Int32} (kv0 : q_M L π v0) (p0 : 0 ≤ v1) (p1 : v1 < 12) (l0 : 0 ≤ vA h (v0 + 2) v1) (rm : vA h (v0 + 2) v1 + q_cn w 3 ≤ 24 ∧ 0 ≤ vA h (v0 + 2) v1 + q_cn w 3) : qi (f_Mod_addTo_4 N m v0 v1 w 16 h) (fun r => x_U L π r ∧ (∀ a, a ≠ v0 + 2 → a ≠ v0 + 3 → r a = h a) ∧ vA r (v0 + 2) v1 = vA h (v0 + 2) v1 + q_cn w 3 ∧ (∀ j, 0 ≤ j → ¬ j = v1 → vA r (v0 + 2) j = vA h (v0 + 2) j) ∧ (∀ j, 0 ≤ j → j < vA h (v0 + 2) v1 + q_cn w 3 → vA r (v0 + 3) (24 * v1 + j) = x_app w 3 (fun j => vA h (v0 + 3) (24 * v1 + j)) (vA h (v0 + 2) v1) j) ∧ ∀ j, 0 ≤ j → j < 24 * v1 ∨ 24 * v1 + 24 ≤ j → vA r (v0 + 3) j = vA h (v0 + 3) j) := by
  cases m with
  | zero => intro r e; rw [f_Mod_addTo_4] at e; cases e
  | succ m =>
    rw [f_Mod_addTo_4, if_neg (by decide)]
    refine qi_bs ?_
    have eb : (Int64.toInt32 (w >>> (Int32.toInt64 16 &&& 63))) &&& 255 = q_by w 5 := rfl
    rw [eb]
    refine qi_if (fun c => ?_) (fun c => ?_)
    · refine qi_bs ?_
      rw [q_cn_3, if_pos c] at rm
      rw [show (16 : Int32) + (-8) = 8 from by decide, q_cn_3, if_pos c, show x_app w 3 (fun j => vA h (v0 + 3) (24 * v1 + j)) (vA h (v0 + 2) v1) = x_app w 2 (fun j => vA h (v0 + 3) (24 * v1 + j)) (vA h (v0 + 2) v1) from if_pos c]
      exact x_uT_2 T kv0 p0 p1 l0 rm
    · rw [q_cn_3, if_neg c] at rm
      have cr := q_cnr_2 w
      have rr := x_rmc l0 rm cr (by decide) (by decide)
      refine l_gR T (d_Mo_2 kv0) ?_
      refine l_gR T (d_Mo_1 kv0) ?_
      refine l_aI (e := vA h (v0 + 2) v1) (fun _ => rfl) (fun _ => ?_)
      refine l_uIc T ?_
      intro h7 T7 j7 c7 a7
      refine l_gR T7 (d_Mo_1 kv0) ?_
      have e7 : vA h7 (v0 + 2) = vA h (v0 + 2) := x_vA_c (c7 (v0 + 2) (by omega))
      refine l_aI (e := vA h (v0 + 2) v1) (fun _ => by rw [e7]) (fun _ => ?_)
      refine l_uIc T7 ?_
      intro h10 T10 j10 c10 a10
      refine qi_bs ?_
      rw [show (16 : Int32) + (-8) = 8 from by decide]
      have n2 : vA h10 (v0 + 2) v1 = vA h (v0 + 2) v1 + 1 := by rw [a10 v1 p0, if_pos rfl]
      have e3 : vA h10 (v0 + 3) = vA h7 (v0 + 3) := x_vA_c (c10 (v0 + 3) (by omega))
      refine qi_mono (x_uT_2 T10 kv0 p0 p1 (by rw [n2]; exact rr.2.1) (by rw [n2]; exact rr.2.2)) ?_
      rintro r ⟨t1, t2, t3, t4, t5, t6⟩
      rw [n2] at t3 t5
      refine ⟨t1, fun a h1 h2 => (t2 a h1 h2).trans ((c10 a h1).trans (c7 a h2)), ?_, fun j j0 jn => ?_, fun j j0 jl => ?_, fun j j0 jj => ?_⟩
      · rw [t3, q_cn_3, if_neg c]; exact x_rm4
      · rw [t4 j j0 jn, a10 j j0, if_neg jn, e7]
      · rw [q_cn_3, if_neg c] at jl
        rw [t5 j j0 (by rw [x_rm4]; exact jl), show x_app w 3 (fun j => vA h (v0 + 3) (24 * v1 + j)) (vA h (v0 + 2) v1) = x_app w 2 (x_up (fun j => vA h (v0 + 3) (24 * v1 + j)) (vA h (v0 + 2) v1) (q_by w 5)) (vA h (v0 + 2) v1 + 1) from if_neg c]
        refine x_al_2 w _ _ _ rr.2.1 (x_rmk (by decide) rr.2.2) (fun k k0 kl => ?_) j j0 (by rw [x_rm4]; exact jl)
        have l24 := rr.1
        rw [e3, a7 _ (by lia)]
        unfold x_up
        by_cases q : k = vA h (v0 + 2) v1
        · rw [if_pos (by rw [q]), if_pos q]
        · rw [if_neg (fun z => q (by lia)), if_neg q]
      · have l24 := rr.1
        rw [t6 j j0 jj, e3, a7 j j0, if_neg]
        intro z
        rw [z] at jj
        rcases jj with y | y <;> lia
theorem x_uT_4 {L : q_L} {π : Nat → Nat → Option Nat} {N m v0 : Nat} {w : Int64} {h : z_H} (T : x_U L π h) {v1 : Int32} (kv0 : q_M L π v0) (p0 : 0 ≤ v1) (p1 : v1 < 12) (l0 : 0 ≤ vA h (v0 + 2) v1) (rm : vA h (v0 + 2) v1 + q_cn w 4 ≤ 24 ∧ 0 ≤ vA h (v0 + 2) v1 + q_cn w 4) : qi (f_Mod_addTo_4 N m v0 v1 w 24 h) (fun r => x_U L π r ∧ (∀ a, a ≠ v0 + 2 → a ≠ v0 + 3 → r a = h a) ∧ vA r (v0 + 2) v1 = vA h (v0 + 2) v1 + q_cn w 4 ∧ (∀ j, 0 ≤ j → ¬ j = v1 → vA r (v0 + 2) j = vA h (v0 + 2) j) ∧ (∀ j, 0 ≤ j → j < vA h (v0 + 2) v1 + q_cn w 4 → vA r (v0 + 3) (24 * v1 + j) = x_app w 4 (fun j => vA h (v0 + 3) (24 * v1 + j)) (vA h (v0 + 2) v1) j) ∧ ∀ j, 0 ≤ j → j < 24 * v1 ∨ 24 * v1 + 24 ≤ j → vA r (v0 + 3) j = vA h (v0 + 3) j) := by
  cases m with
  | zero => intro r e; rw [f_Mod_addTo_4] at e; cases e
  | succ m =>
    rw [f_Mod_addTo_4, if_neg (by decide)]
    refine qi_bs ?_
    have eb : (Int64.toInt32 (w >>> (Int32.toInt64 24 &&& 63))) &&& 255 = q_by w 4 := rfl
    rw [eb]
    refine qi_if (fun c => ?_) (fun c => ?_)
    · refine qi_bs ?_
      rw [q_cn_4, if_pos c] at rm
      rw [show (24 : Int32) + (-8) = 16 from by decide, q_cn_4, if_pos c, show x_app w 4 (fun j => vA h (v0 + 3) (24 * v1 + j)) (vA h (v0 + 2) v1) = x_app w 3 (fun j => vA h (v0 + 3) (24 * v1 + j)) (vA h (v0 + 2) v1) from if_pos c]
      exact x_uT_3 T kv0 p0 p1 l0 rm
    · rw [q_cn_4, if_neg c] at rm
      have cr := q_cnr_3 w
      have rr := x_rmc l0 rm cr (by decide) (by decide)
      refine l_gR T (d_Mo_2 kv0) ?_
      refine l_gR T (d_Mo_1 kv0) ?_
      refine l_aI (e := vA h (v0 + 2) v1) (fun _ => rfl) (fun _ => ?_)
      refine l_uIc T ?_
      intro h7 T7 j7 c7 a7
      refine l_gR T7 (d_Mo_1 kv0) ?_
      have e7 : vA h7 (v0 + 2) = vA h (v0 + 2) := x_vA_c (c7 (v0 + 2) (by omega))
      refine l_aI (e := vA h (v0 + 2) v1) (fun _ => by rw [e7]) (fun _ => ?_)
      refine l_uIc T7 ?_
      intro h10 T10 j10 c10 a10
      refine qi_bs ?_
      rw [show (24 : Int32) + (-8) = 16 from by decide]
      have n2 : vA h10 (v0 + 2) v1 = vA h (v0 + 2) v1 + 1 := by rw [a10 v1 p0, if_pos rfl]
      have e3 : vA h10 (v0 + 3) = vA h7 (v0 + 3) := x_vA_c (c10 (v0 + 3) (by omega))
      refine qi_mono (x_uT_3 T10 kv0 p0 p1 (by rw [n2]; exact rr.2.1) (by rw [n2]; exact rr.2.2)) ?_
      rintro r ⟨t1, t2, t3, t4, t5, t6⟩
      rw [n2] at t3 t5
      refine ⟨t1, fun a h1 h2 => (t2 a h1 h2).trans ((c10 a h1).trans (c7 a h2)), ?_, fun j j0 jn => ?_, fun j j0 jl => ?_, fun j j0 jj => ?_⟩
      · rw [t3, q_cn_4, if_neg c]; exact x_rm4
      · rw [t4 j j0 jn, a10 j j0, if_neg jn, e7]
      · rw [q_cn_4, if_neg c] at jl
        rw [t5 j j0 (by rw [x_rm4]; exact jl), show x_app w 4 (fun j => vA h (v0 + 3) (24 * v1 + j)) (vA h (v0 + 2) v1) = x_app w 3 (x_up (fun j => vA h (v0 + 3) (24 * v1 + j)) (vA h (v0 + 2) v1) (q_by w 4)) (vA h (v0 + 2) v1 + 1) from if_neg c]
        refine x_al_3 w _ _ _ rr.2.1 (x_rmk (by decide) rr.2.2) (fun k k0 kl => ?_) j j0 (by rw [x_rm4]; exact jl)
        have l24 := rr.1
        rw [e3, a7 _ (by lia)]
        unfold x_up
        by_cases q : k = vA h (v0 + 2) v1
        · rw [if_pos (by rw [q]), if_pos q]
        · rw [if_neg (fun z => q (by lia)), if_neg q]
      · have l24 := rr.1
        rw [t6 j j0 jj, e3, a7 j j0, if_neg]
        intro z
        rw [z] at jj
        rcases jj with y | y <;> lia
theorem x_uT_5 {L : q_L} {π : Nat → Nat → Option Nat} {N m v0 : Nat} {w : Int64} {h : z_H} (T : x_U L π h) {v1 : Int32} (kv0 : q_M L π v0) (p0 : 0 ≤ v1) (p1 : v1 < 12) (l0 : 0 ≤ vA h (v0 + 2) v1) (rm : vA h (v0 + 2) v1 + q_cn w 5 ≤ 24 ∧ 0 ≤ vA h (v0 + 2) v1 + q_cn w 5) : qi (f_Mod_addTo_4 N m v0 v1 w 32 h) (fun r => x_U L π r ∧ (∀ a, a ≠ v0 + 2 → a ≠ v0 + 3 → r a = h a) ∧ vA r (v0 + 2) v1 = vA h (v0 + 2) v1 + q_cn w 5 ∧ (∀ j, 0 ≤ j → ¬ j = v1 → vA r (v0 + 2) j = vA h (v0 + 2) j) ∧ (∀ j, 0 ≤ j → j < vA h (v0 + 2) v1 + q_cn w 5 → vA r (v0 + 3) (24 * v1 + j) = x_app w 5 (fun j => vA h (v0 + 3) (24 * v1 + j)) (vA h (v0 + 2) v1) j) ∧ ∀ j, 0 ≤ j → j < 24 * v1 ∨ 24 * v1 + 24 ≤ j → vA r (v0 + 3) j = vA h (v0 + 3) j) := by
  cases m with
  | zero => intro r e; rw [f_Mod_addTo_4] at e; cases e
  | succ m =>
    rw [f_Mod_addTo_4, if_neg (by decide)]
    refine qi_bs ?_
    have eb : (Int64.toInt32 (w >>> (Int32.toInt64 32 &&& 63))) &&& 255 = q_by w 3 := rfl
    rw [eb]
    refine qi_if (fun c => ?_) (fun c => ?_)
    · refine qi_bs ?_
      rw [q_cn_5, if_pos c] at rm
      rw [show (32 : Int32) + (-8) = 24 from by decide, q_cn_5, if_pos c, show x_app w 5 (fun j => vA h (v0 + 3) (24 * v1 + j)) (vA h (v0 + 2) v1) = x_app w 4 (fun j => vA h (v0 + 3) (24 * v1 + j)) (vA h (v0 + 2) v1) from if_pos c]
      exact x_uT_4 T kv0 p0 p1 l0 rm
    · rw [q_cn_5, if_neg c] at rm
      have cr := q_cnr_4 w
      have rr := x_rmc l0 rm cr (by decide) (by decide)
      refine l_gR T (d_Mo_2 kv0) ?_
      refine l_gR T (d_Mo_1 kv0) ?_
      refine l_aI (e := vA h (v0 + 2) v1) (fun _ => rfl) (fun _ => ?_)
      refine l_uIc T ?_
      intro h7 T7 j7 c7 a7
      refine l_gR T7 (d_Mo_1 kv0) ?_
      have e7 : vA h7 (v0 + 2) = vA h (v0 + 2) := x_vA_c (c7 (v0 + 2) (by omega))
      refine l_aI (e := vA h (v0 + 2) v1) (fun _ => by rw [e7]) (fun _ => ?_)
      refine l_uIc T7 ?_
      intro h10 T10 j10 c10 a10
      refine qi_bs ?_
      rw [show (32 : Int32) + (-8) = 24 from by decide]
      have n2 : vA h10 (v0 + 2) v1 = vA h (v0 + 2) v1 + 1 := by rw [a10 v1 p0, if_pos rfl]
      have e3 : vA h10 (v0 + 3) = vA h7 (v0 + 3) := x_vA_c (c10 (v0 + 3) (by omega))
      refine qi_mono (x_uT_4 T10 kv0 p0 p1 (by rw [n2]; exact rr.2.1) (by rw [n2]; exact rr.2.2)) ?_
      rintro r ⟨t1, t2, t3, t4, t5, t6⟩
      rw [n2] at t3 t5
      refine ⟨t1, fun a h1 h2 => (t2 a h1 h2).trans ((c10 a h1).trans (c7 a h2)), ?_, fun j j0 jn => ?_, fun j j0 jl => ?_, fun j j0 jj => ?_⟩
      · rw [t3, q_cn_5, if_neg c]; exact x_rm4
      · rw [t4 j j0 jn, a10 j j0, if_neg jn, e7]
      · rw [q_cn_5, if_neg c] at jl
        rw [t5 j j0 (by rw [x_rm4]; exact jl), show x_app w 5 (fun j => vA h (v0 + 3) (24 * v1 + j)) (vA h (v0 + 2) v1) = x_app w 4 (x_up (fun j => vA h (v0 + 3) (24 * v1 + j)) (vA h (v0 + 2) v1) (q_by w 3)) (vA h (v0 + 2) v1 + 1) from if_neg c]
        refine x_al_4 w _ _ _ rr.2.1 (x_rmk (by decide) rr.2.2) (fun k k0 kl => ?_) j j0 (by rw [x_rm4]; exact jl)
        have l24 := rr.1
        rw [e3, a7 _ (by lia)]
        unfold x_up
        by_cases q : k = vA h (v0 + 2) v1
        · rw [if_pos (by rw [q]), if_pos q]
        · rw [if_neg (fun z => q (by lia)), if_neg q]
      · have l24 := rr.1
        rw [t6 j j0 jj, e3, a7 j j0, if_neg]
        intro z
        rw [z] at jj
        rcases jj with y | y <;> lia
theorem x_uT_6 {L : q_L} {π : Nat → Nat → Option Nat} {N m v0 : Nat} {w : Int64} {h : z_H} (T : x_U L π h) {v1 : Int32} (kv0 : q_M L π v0) (p0 : 0 ≤ v1) (p1 : v1 < 12) (l0 : 0 ≤ vA h (v0 + 2) v1) (rm : vA h (v0 + 2) v1 + q_cn w 6 ≤ 24 ∧ 0 ≤ vA h (v0 + 2) v1 + q_cn w 6) : qi (f_Mod_addTo_4 N m v0 v1 w 40 h) (fun r => x_U L π r ∧ (∀ a, a ≠ v0 + 2 → a ≠ v0 + 3 → r a = h a) ∧ vA r (v0 + 2) v1 = vA h (v0 + 2) v1 + q_cn w 6 ∧ (∀ j, 0 ≤ j → ¬ j = v1 → vA r (v0 + 2) j = vA h (v0 + 2) j) ∧ (∀ j, 0 ≤ j → j < vA h (v0 + 2) v1 + q_cn w 6 → vA r (v0 + 3) (24 * v1 + j) = x_app w 6 (fun j => vA h (v0 + 3) (24 * v1 + j)) (vA h (v0 + 2) v1) j) ∧ ∀ j, 0 ≤ j → j < 24 * v1 ∨ 24 * v1 + 24 ≤ j → vA r (v0 + 3) j = vA h (v0 + 3) j) := by
  cases m with
  | zero => intro r e; rw [f_Mod_addTo_4] at e; cases e
  | succ m =>
    rw [f_Mod_addTo_4, if_neg (by decide)]
    refine qi_bs ?_
    have eb : (Int64.toInt32 (w >>> (Int32.toInt64 40 &&& 63))) &&& 255 = q_by w 2 := rfl
    rw [eb]
    refine qi_if (fun c => ?_) (fun c => ?_)
    · refine qi_bs ?_
      rw [q_cn_6, if_pos c] at rm
      rw [show (40 : Int32) + (-8) = 32 from by decide, q_cn_6, if_pos c, show x_app w 6 (fun j => vA h (v0 + 3) (24 * v1 + j)) (vA h (v0 + 2) v1) = x_app w 5 (fun j => vA h (v0 + 3) (24 * v1 + j)) (vA h (v0 + 2) v1) from if_pos c]
      exact x_uT_5 T kv0 p0 p1 l0 rm
    · rw [q_cn_6, if_neg c] at rm
      have cr := q_cnr_5 w
      have rr := x_rmc l0 rm cr (by decide) (by decide)
      refine l_gR T (d_Mo_2 kv0) ?_
      refine l_gR T (d_Mo_1 kv0) ?_
      refine l_aI (e := vA h (v0 + 2) v1) (fun _ => rfl) (fun _ => ?_)
      refine l_uIc T ?_
      intro h7 T7 j7 c7 a7
      refine l_gR T7 (d_Mo_1 kv0) ?_
      have e7 : vA h7 (v0 + 2) = vA h (v0 + 2) := x_vA_c (c7 (v0 + 2) (by omega))
      refine l_aI (e := vA h (v0 + 2) v1) (fun _ => by rw [e7]) (fun _ => ?_)
      refine l_uIc T7 ?_
      intro h10 T10 j10 c10 a10
      refine qi_bs ?_
      rw [show (40 : Int32) + (-8) = 32 from by decide]
      have n2 : vA h10 (v0 + 2) v1 = vA h (v0 + 2) v1 + 1 := by rw [a10 v1 p0, if_pos rfl]
      have e3 : vA h10 (v0 + 3) = vA h7 (v0 + 3) := x_vA_c (c10 (v0 + 3) (by omega))
      refine qi_mono (x_uT_5 T10 kv0 p0 p1 (by rw [n2]; exact rr.2.1) (by rw [n2]; exact rr.2.2)) ?_
      rintro r ⟨t1, t2, t3, t4, t5, t6⟩
      rw [n2] at t3 t5
      refine ⟨t1, fun a h1 h2 => (t2 a h1 h2).trans ((c10 a h1).trans (c7 a h2)), ?_, fun j j0 jn => ?_, fun j j0 jl => ?_, fun j j0 jj => ?_⟩
      · rw [t3, q_cn_6, if_neg c]; exact x_rm4
      · rw [t4 j j0 jn, a10 j j0, if_neg jn, e7]
      · rw [q_cn_6, if_neg c] at jl
        rw [t5 j j0 (by rw [x_rm4]; exact jl), show x_app w 6 (fun j => vA h (v0 + 3) (24 * v1 + j)) (vA h (v0 + 2) v1) = x_app w 5 (x_up (fun j => vA h (v0 + 3) (24 * v1 + j)) (vA h (v0 + 2) v1) (q_by w 2)) (vA h (v0 + 2) v1 + 1) from if_neg c]
        refine x_al_5 w _ _ _ rr.2.1 (x_rmk (by decide) rr.2.2) (fun k k0 kl => ?_) j j0 (by rw [x_rm4]; exact jl)
        have l24 := rr.1
        rw [e3, a7 _ (by lia)]
        unfold x_up
        by_cases q : k = vA h (v0 + 2) v1
        · rw [if_pos (by rw [q]), if_pos q]
        · rw [if_neg (fun z => q (by lia)), if_neg q]
      · have l24 := rr.1
        rw [t6 j j0 jj, e3, a7 j j0, if_neg]
        intro z
        rw [z] at jj
        rcases jj with y | y <;> lia
theorem x_uT_7 {L : q_L} {π : Nat → Nat → Option Nat} {N m v0 : Nat} {w : Int64} {h : z_H} (T : x_U L π h) {v1 : Int32} (kv0 : q_M L π v0) (p0 : 0 ≤ v1) (p1 : v1 < 12) (l0 : 0 ≤ vA h (v0 + 2) v1) (rm : vA h (v0 + 2) v1 + q_cn w 7 ≤ 24 ∧ 0 ≤ vA h (v0 + 2) v1 + q_cn w 7) : qi (f_Mod_addTo_4 N m v0 v1 w 48 h) (fun r => x_U L π r ∧ (∀ a, a ≠ v0 + 2 → a ≠ v0 + 3 → r a = h a) ∧ vA r (v0 + 2) v1 = vA h (v0 + 2) v1 + q_cn w 7 ∧ (∀ j, 0 ≤ j → ¬ j = v1 → vA r (v0 + 2) j = vA h (v0 + 2) j) ∧ (∀ j, 0 ≤ j → j < vA h (v0 + 2) v1 + q_cn w 7 → vA r (v0 + 3) (24 * v1 + j) = x_app w 7 (fun j => vA h (v0 + 3) (24 * v1 + j)) (vA h (v0 + 2) v1) j) ∧ ∀ j, 0 ≤ j → j < 24 * v1 ∨ 24 * v1 + 24 ≤ j → vA r (v0 + 3) j = vA h (v0 + 3) j) := by
  cases m with
  | zero => intro r e; rw [f_Mod_addTo_4] at e; cases e
  | succ m =>
    rw [f_Mod_addTo_4, if_neg (by decide)]
    refine qi_bs ?_
    have eb : (Int64.toInt32 (w >>> (Int32.toInt64 48 &&& 63))) &&& 255 = q_by w 1 := rfl
    rw [eb]
    refine qi_if (fun c => ?_) (fun c => ?_)
    · refine qi_bs ?_
      rw [q_cn_7, if_pos c] at rm
      rw [show (48 : Int32) + (-8) = 40 from by decide, q_cn_7, if_pos c, show x_app w 7 (fun j => vA h (v0 + 3) (24 * v1 + j)) (vA h (v0 + 2) v1) = x_app w 6 (fun j => vA h (v0 + 3) (24 * v1 + j)) (vA h (v0 + 2) v1) from if_pos c]
      exact x_uT_6 T kv0 p0 p1 l0 rm
    · rw [q_cn_7, if_neg c] at rm
      have cr := q_cnr_6 w
      have rr := x_rmc l0 rm cr (by decide) (by decide)
      refine l_gR T (d_Mo_2 kv0) ?_
      refine l_gR T (d_Mo_1 kv0) ?_
      refine l_aI (e := vA h (v0 + 2) v1) (fun _ => rfl) (fun _ => ?_)
      refine l_uIc T ?_
      intro h7 T7 j7 c7 a7
      refine l_gR T7 (d_Mo_1 kv0) ?_
      have e7 : vA h7 (v0 + 2) = vA h (v0 + 2) := x_vA_c (c7 (v0 + 2) (by omega))
      refine l_aI (e := vA h (v0 + 2) v1) (fun _ => by rw [e7]) (fun _ => ?_)
      refine l_uIc T7 ?_
      intro h10 T10 j10 c10 a10
      refine qi_bs ?_
      rw [show (48 : Int32) + (-8) = 40 from by decide]
      have n2 : vA h10 (v0 + 2) v1 = vA h (v0 + 2) v1 + 1 := by rw [a10 v1 p0, if_pos rfl]
      have e3 : vA h10 (v0 + 3) = vA h7 (v0 + 3) := x_vA_c (c10 (v0 + 3) (by omega))
      refine qi_mono (x_uT_6 T10 kv0 p0 p1 (by rw [n2]; exact rr.2.1) (by rw [n2]; exact rr.2.2)) ?_
      rintro r ⟨t1, t2, t3, t4, t5, t6⟩
      rw [n2] at t3 t5
      refine ⟨t1, fun a h1 h2 => (t2 a h1 h2).trans ((c10 a h1).trans (c7 a h2)), ?_, fun j j0 jn => ?_, fun j j0 jl => ?_, fun j j0 jj => ?_⟩
      · rw [t3, q_cn_7, if_neg c]; exact x_rm4
      · rw [t4 j j0 jn, a10 j j0, if_neg jn, e7]
      · rw [q_cn_7, if_neg c] at jl
        rw [t5 j j0 (by rw [x_rm4]; exact jl), show x_app w 7 (fun j => vA h (v0 + 3) (24 * v1 + j)) (vA h (v0 + 2) v1) = x_app w 6 (x_up (fun j => vA h (v0 + 3) (24 * v1 + j)) (vA h (v0 + 2) v1) (q_by w 1)) (vA h (v0 + 2) v1 + 1) from if_neg c]
        refine x_al_6 w _ _ _ rr.2.1 (x_rmk (by decide) rr.2.2) (fun k k0 kl => ?_) j j0 (by rw [x_rm4]; exact jl)
        have l24 := rr.1
        rw [e3, a7 _ (by lia)]
        unfold x_up
        by_cases q : k = vA h (v0 + 2) v1
        · rw [if_pos (by rw [q]), if_pos q]
        · rw [if_neg (fun z => q (by lia)), if_neg q]
      · have l24 := rr.1
        rw [t6 j j0 jj, e3, a7 j j0, if_neg]
        intro z
        rw [z] at jj
        rcases jj with y | y <;> lia
theorem x_uT_8 {L : q_L} {π : Nat → Nat → Option Nat} {N m v0 : Nat} {w : Int64} {h : z_H} (T : x_U L π h) {v1 : Int32} (kv0 : q_M L π v0) (p0 : 0 ≤ v1) (p1 : v1 < 12) (l0 : 0 ≤ vA h (v0 + 2) v1) (rm : vA h (v0 + 2) v1 + q_cn w 8 ≤ 24 ∧ 0 ≤ vA h (v0 + 2) v1 + q_cn w 8) : qi (f_Mod_addTo_4 N m v0 v1 w 56 h) (fun r => x_U L π r ∧ (∀ a, a ≠ v0 + 2 → a ≠ v0 + 3 → r a = h a) ∧ vA r (v0 + 2) v1 = vA h (v0 + 2) v1 + q_cn w 8 ∧ (∀ j, 0 ≤ j → ¬ j = v1 → vA r (v0 + 2) j = vA h (v0 + 2) j) ∧ (∀ j, 0 ≤ j → j < vA h (v0 + 2) v1 + q_cn w 8 → vA r (v0 + 3) (24 * v1 + j) = x_app w 8 (fun j => vA h (v0 + 3) (24 * v1 + j)) (vA h (v0 + 2) v1) j) ∧ ∀ j, 0 ≤ j → j < 24 * v1 ∨ 24 * v1 + 24 ≤ j → vA r (v0 + 3) j = vA h (v0 + 3) j) := by
  cases m with
  | zero => intro r e; rw [f_Mod_addTo_4] at e; cases e
  | succ m =>
    rw [f_Mod_addTo_4, if_neg (by decide)]
    refine qi_bs ?_
    have eb : (Int64.toInt32 (w >>> (Int32.toInt64 56 &&& 63))) &&& 255 = q_by w 0 := rfl
    rw [eb]
    refine qi_if (fun c => ?_) (fun c => ?_)
    · refine qi_bs ?_
      rw [q_cn_8, if_pos c] at rm
      rw [show (56 : Int32) + (-8) = 48 from by decide, q_cn_8, if_pos c, show x_app w 8 (fun j => vA h (v0 + 3) (24 * v1 + j)) (vA h (v0 + 2) v1) = x_app w 7 (fun j => vA h (v0 + 3) (24 * v1 + j)) (vA h (v0 + 2) v1) from if_pos c]
      exact x_uT_7 T kv0 p0 p1 l0 rm
    · rw [q_cn_8, if_neg c] at rm
      have cr := q_cnr_7 w
      have rr := x_rmc l0 rm cr (by decide) (by decide)
      refine l_gR T (d_Mo_2 kv0) ?_
      refine l_gR T (d_Mo_1 kv0) ?_
      refine l_aI (e := vA h (v0 + 2) v1) (fun _ => rfl) (fun _ => ?_)
      refine l_uIc T ?_
      intro h7 T7 j7 c7 a7
      refine l_gR T7 (d_Mo_1 kv0) ?_
      have e7 : vA h7 (v0 + 2) = vA h (v0 + 2) := x_vA_c (c7 (v0 + 2) (by omega))
      refine l_aI (e := vA h (v0 + 2) v1) (fun _ => by rw [e7]) (fun _ => ?_)
      refine l_uIc T7 ?_
      intro h10 T10 j10 c10 a10
      refine qi_bs ?_
      rw [show (56 : Int32) + (-8) = 48 from by decide]
      have n2 : vA h10 (v0 + 2) v1 = vA h (v0 + 2) v1 + 1 := by rw [a10 v1 p0, if_pos rfl]
      have e3 : vA h10 (v0 + 3) = vA h7 (v0 + 3) := x_vA_c (c10 (v0 + 3) (by omega))
      refine qi_mono (x_uT_7 T10 kv0 p0 p1 (by rw [n2]; exact rr.2.1) (by rw [n2]; exact rr.2.2)) ?_
      rintro r ⟨t1, t2, t3, t4, t5, t6⟩
      rw [n2] at t3 t5
      refine ⟨t1, fun a h1 h2 => (t2 a h1 h2).trans ((c10 a h1).trans (c7 a h2)), ?_, fun j j0 jn => ?_, fun j j0 jl => ?_, fun j j0 jj => ?_⟩
      · rw [t3, q_cn_8, if_neg c]; exact x_rm4
      · rw [t4 j j0 jn, a10 j j0, if_neg jn, e7]
      · rw [q_cn_8, if_neg c] at jl
        rw [t5 j j0 (by rw [x_rm4]; exact jl), show x_app w 8 (fun j => vA h (v0 + 3) (24 * v1 + j)) (vA h (v0 + 2) v1) = x_app w 7 (x_up (fun j => vA h (v0 + 3) (24 * v1 + j)) (vA h (v0 + 2) v1) (q_by w 0)) (vA h (v0 + 2) v1 + 1) from if_neg c]
        refine x_al_7 w _ _ _ rr.2.1 (x_rmk (by decide) rr.2.2) (fun k k0 kl => ?_) j j0 (by rw [x_rm4]; exact jl)
        have l24 := rr.1
        rw [e3, a7 _ (by lia)]
        unfold x_up
        by_cases q : k = vA h (v0 + 2) v1
        · rw [if_pos (by rw [q]), if_pos q]
        · rw [if_neg (fun z => q (by lia)), if_neg q]
      · have l24 := rr.1
        rw [t6 j j0 jj, e3, a7 j j0, if_neg]
        intro z
        rw [z] at jj
        rcases jj with y | y <;> lia
