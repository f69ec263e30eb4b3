theorem x_and255 (x : Int32) : 0 ≤ x &&& 255 ∧ x &&& 255 ≤ 255 := by
  have e1 : (x &&& 255).toBitVec.toNat ≤ 255 := by
    show (x.toBitVec &&& (255 : Int32).toBitVec).toNat ≤ 255
    rw [BitVec.toNat_and]
    exact Nat.and_le_right
  have e2 : (x &&& 255).toInt = (x &&& 255).toBitVec.toNat := by
    show (x &&& 255).toBitVec.toInt = _
    rw [BitVec.toInt_eq_toNat_of_lt (by omega)]
  have z0 : (0 : Int32).toInt = 0 := rfl
  have z5 : (255 : Int32).toInt = 255 := rfl
  constructor
  · refine Int32.le_iff_toInt_le.mpr ?_
    rw [e2, z0]; omega
  · refine Int32.le_iff_toInt_le.mpr ?_
    rw [e2, z5]; omega
/-- the text behind a script call: the bytes that aren't 0, one behind another -/
def x_app (w : Int64) : Nat → (Int32 → Int32) → Int32 → (Int32 → Int32)
  | 0, f, _ => f
  | r + 1, f, n => if q_by w (7 - Int32.ofNat r) = 0 then x_app w r f n else x_app w r (x_up f n (q_by w (7 - Int32.ofNat r))) (n + 1)
theorem x_app_cg (w : Int64) : ∀ (r : Nat) (f g : Int32 → Int32) (n : Int32), (∀ j, 0 ≤ j → f j = g j) → ∀ j, 0 ≤ j → x_app w r f n j = x_app w r g n j := by
  intro r
  induction r with
  | zero => intro f g n e j j0; exact e j j0
  | succ r ih =>
    intro f g n e j j0
    unfold x_app
    split
    · exact ih f g n e j j0
    · refine ih _ _ _ (fun i i0 => ?_) j j0
      unfold x_up
      split
      · rfl
      · exact e i i0
theorem x_nar2 {c : Int32} (h0 : 0 ≤ c) (h1 : c ≤ 255) : vp_nar .char ((Int32.toUInt32 c % 65536).toInt32) = c := by
  have e : (Int32.toUInt32 c % 65536).toInt32 = c := by
    have a0 := Int32.le_iff_toInt_le.mp h0
    have a1 := Int32.le_iff_toInt_le.mp h1
    have e0 : (0 : Int32).toInt = 0 := rfl
    have e6 : (255 : Int32).toInt = 255 := rfl
    rw [e0] at a0
    rw [e6] at a1
    have e3 : (c.toUInt32.toNat : Int) = c.toInt := by
      show (c.toBitVec.toNat : Int) = c.toBitVec.toInt
      have q : c.toInt = c.toBitVec.toInt := rfl
      rw [q] at a0
      have l := c.toBitVec.isLt
      rw [BitVec.toInt_eq_toNat_cond] at a0 ⊢
      split at a0
      · next w => rw [if_pos w]
      · omega
    have e4 : Int32.toUInt32 c % 65536 = Int32.toUInt32 c := by
      apply UInt32.toNat_inj.mp
      rw [UInt32.toNat_mod]
      have z : (65536 : UInt32).toNat = 65536 := rfl
      rw [z]
      exact Nat.mod_eq_of_lt (by omega)
    rw [e4]
    rfl
  rw [e]
  exact x_nar h0 (Int32.le_trans h1 (by decide))
theorem x_byr (w : Int64) (k : Int32) : 0 ≤ q_by w k ∧ q_by w k ≤ 255 := x_and255 _
theorem x_rm1 {l x b : Int32} (l0 : 0 ≤ l) (rm : l + (x + 1) ≤ 240 ∧ 0 ≤ l + (x + 1)) (cr : 0 ≤ x ∧ x ≤ b) (hb : b ≤ 8) : l < 240 := by
  obtain ⟨r1, r2⟩ := rm
  obtain ⟨c1, c2⟩ := cr
  lia
theorem x_rm2 {l x b : Int32} (l0 : 0 ≤ l) (rm : l + (x + 1) ≤ 240 ∧ 0 ≤ l + (x + 1)) (cr : 0 ≤ x ∧ x ≤ b) (hb : b ≤ 8) : 0 ≤ l + 1 := by
  have q := x_rm1 l0 rm cr hb
  lia
theorem x_rm3 {l x b : Int32} (l0 : 0 ≤ l) (rm : l + (x + 1) ≤ 240 ∧ 0 ≤ l + (x + 1)) (cr : 0 ≤ x ∧ x ≤ b) (hb : b ≤ 8) : l + 1 + x ≤ 240 ∧ 0 ≤ l + 1 + x := by
  have e : l + 1 + x = l + (x + 1) := by grind
  rw [e]
  exact rm
theorem x_rm4 {l x : Int32} : l + 1 + x = l + (x + 1) := by grind
set_option maxHeartbeats 2000000 in
theorem i_Row_add {L : q_L} {π : Nat → Nat → Option Nat} {N : Nat} {h : z_H} {v0 : Nat} {v1 : Int32} (T : x_U L π h) (kv0 : qκ L v0 = 11) (wr : vI h v0 1 < qhi L v0 1) : qi (f_Row_add N v0 v1 h) (fun r => x_U L π r ∧ (vI r v0 1 = vI h v0 1 + 1) ∧ (∀ j, 0 ≤ j → vA r (v0 + 1) j = if j = vI h v0 1 then vp_nar .char ((Int32.toUInt32 v1 % 65536).toInt32) else vA h (v0 + 1) j) ∧ (∀ a k, ¬ ((a = v0 ∧ k = 1)) → vI r a k = vI h a k) ∧ (∀ a, ¬ (a = (v0 + 1)) → vA r a = vA h a)) := by
  unfold f_Row_add
  refine l_gI (e := (vI h v0 1)) rfl ?_
  refine l_gR T (d_Row_0 T kv0) ?_
  refine l_aNr T kv0 ?_
  refine qi_if (fun cc1 => ?_) (fun cc1 => ?_)
  · skip
    refine qi_some ?_
    exact ⟨T, (by show vI h v0 1 = vI h v0 1 + 1; exfalso; exact absurd (Int32.lt_of_lt_of_le wr cc1) Int32.lt_irrefl), (by show ∀ j, 0 ≤ j → vA h (v0 + 1) j = if j = vI h v0 1 then vp_nar .char ((Int32.toUInt32 v1 % 65536).toInt32) else vA h (v0 + 1) j; exfalso; exact absurd (Int32.lt_of_lt_of_le wr cc1) Int32.lt_irrefl), (fun a k na => by rfl), (fun a na => by rfl)⟩
  · skip
    refine l_gR T (d_Row_0 T kv0) ?_
    refine l_gI (e := (vI h v0 1)) rfl ?_
    refine l_uI T ?_
    intro h7_2 Th7_2 jh7_2 ih7_2 ah7_2 bh7_2
    refine l_gI (e := (vI h v0 1)) (by rw [ih7_2 v0 1]) ?_
    refine l_sI Th7_2 kv0 (by decide) rfl ?_
    intro h9_3 Th9_3 ih9_3 ah9_3
    refine qi_some ?_
    exact ⟨Th9_3, (by show vI h9_3 v0 1 = vI h v0 1 + 1; rw [show vI h9_3 v0 1 = ((vI h v0 1) + 1) from (by rw [ih9_3 v0 1, if_pos ⟨rfl, rfl⟩])] <;> (rfl)), (fun j j0 => by rw [ah9_3 (v0 + 1), ah7_2 (v0 + 1) j j0]; by_cases q : j = vI h v0 1; (rw [if_pos ⟨rfl, q⟩, if_pos q]); (rw [if_neg (fun z => q z.2), if_neg q])), (fun a k na => by rw [ih9_3 a k, if_neg (fun z => na (z)), ih7_2 a k]), (fun a na => by rw [ah9_3 a, bh7_2 a (fun z => na (z))])⟩
theorem j_Row_add {L : q_L} {π : Nat → Nat → Option Nat} {N : Nat} {h : z_H} {v0 : Nat} {v1 : Int32} {β : Type} {f : z_H → Option β} {Q : β → Prop} (T : x_U L π h) (kv0 : qκ L v0 = 11) (wr : vI h v0 1 < qhi L v0 1) (H : ∀ h', x_U L π h' → (vI h' v0 1 = vI h v0 1 + 1) → (∀ j, 0 ≤ j → vA h' (v0 + 1) j = if j = vI h v0 1 then vp_nar .char ((Int32.toUInt32 v1 % 65536).toInt32) else vA h (v0 + 1) j) → (∀ a k, ¬ ((a = v0 ∧ k = 1)) → vI h' a k = vI h a k) → (∀ a, ¬ (a = (v0 + 1)) → vA h' a = vA h a) → qi (f h') Q) : qi (z_b (f_Row_add N v0 v1 h) f) Q := by
  refine qi_b (i_Row_add  T kv0 wr) ?_
  rintro hz ⟨Tz, g0, g1, g2, g3⟩
  exact H hz Tz g0 g1 g2 g3
theorem x_aT_0 {L : q_L} {π : Nat → Nat → Option Nat} {N m v0 : Nat} {w : Int64} {h : z_H} (T : x_U L π h) (kv0 : qκ L v0 = 11) (wq : qhi L v0 1 = 240) (l0 : 0 ≤ vI h v0 1) (rm : vI h v0 1 + q_cn w 0 ≤ 240 ∧ 0 ≤ vI h v0 1 + q_cn w 0) : qi (f_SF_addText_2 N m v0 w 8 h) (fun r => x_U L π r ∧ vI r v0 1 = vI h v0 1 + q_cn w 0 ∧ ∀ j, 0 ≤ j → vA r (v0 + 1) j = x_app w 0 (vA h (v0 + 1)) (vI h v0 1) j) := by
  intro r e
  cases m with
  | zero => rw [f_SF_addText_2] at e; cases e
  | succ m =>
    rw [f_SF_addText_2, if_pos (by decide)] at e
    cases e
    exact ⟨T, by rw [q_cn_0, Int32.add_zero], fun j j0 => rfl⟩
theorem x_aT_1 {L : q_L} {π : Nat → Nat → Option Nat} {N m v0 : Nat} {w : Int64} {h : z_H} (T : x_U L π h) (kv0 : qκ L v0 = 11) (wq : qhi L v0 1 = 240) (l0 : 0 ≤ vI h v0 1) (rm : vI h v0 1 + q_cn w 1 ≤ 240 ∧ 0 ≤ vI h v0 1 + q_cn w 1) : qi (f_SF_addText_2 N m v0 w 7 h) (fun r => x_U L π r ∧ vI r v0 1 = vI h v0 1 + q_cn w 1 ∧ ∀ j, 0 ≤ j → vA r (v0 + 1) j = x_app w 1 (vA h (v0 + 1)) (vI h v0 1) j) := by
  intro r e
  cases m with
  | zero => rw [f_SF_addText_2] at e; cases e
  | succ m =>
    rw [f_SF_addText_2, if_neg (by decide)] at e
    have eb : f_SF_byteOf N w 7 h = some (q_by w 7, h) := by rw [← q_by7]; rfl
    rw [eb, z_b_some] at e
    dsimp only at e
    rw [z_b_some] at e
    by_cases c : q_by w 7 = 0
    · rw [if_pos c, z_b_some, show (7 : Int32) + 1 = 8 from by decide] at e
      rw [q_cn_1, if_pos c] at rm
      have s := x_aT_0 T kv0 wq l0 rm r e
      exact ⟨s.1, by rw [q_cn_1, if_pos c]; exact s.2.1, fun j j0 => by rw [show x_app w 1 (vA h (v0 + 1)) (vI h v0 1) = x_app w 0 (vA h (v0 + 1)) (vI h v0 1) from if_pos c]; exact s.2.2 j j0⟩
    · rw [if_neg c] at e
      obtain ⟨_, _, e⟩ := z_bs e
      obtain ⟨h1, e1, e⟩ := z_bs e
      rw [z_b_some, show (7 : Int32) + 1 = 8 from by decide] at e
      rw [q_cn_1, if_neg c] at rm
      have cr := q_cnr_0 w
      obtain ⟨T1, g0, g1, _, _⟩ := i_Row_add T kv0 (by rw [wq]; exact x_rm1 l0 rm cr (by decide)) h1 e1
      have s := x_aT_0 T1 kv0 wq (by rw [g0]; exact x_rm2 l0 rm cr (by decide)) (by rw [g0]; exact x_rm3 l0 rm cr (by decide)) r e
      refine ⟨s.1, ?_, fun j j0 => ?_⟩
      · rw [s.2.1, g0, q_cn_1, if_neg c]; exact x_rm4
      · rw [s.2.2 j j0, g0, show x_app w 1 (vA h (v0 + 1)) (vI h v0 1) = x_app w 0 (x_up (vA h (v0 + 1)) (vI h v0 1) (q_by w 7)) (vI h v0 1 + 1) from if_neg c]
        refine x_app_cg w 0 _ _ _ (fun k k0 => ?_) j j0
        rw [g1 k k0]
        unfold x_up
        rw [x_nar2 (x_byr w 7).1 (x_byr w 7).2]
theorem x_aT_2 {L : q_L} {π : Nat → Nat → Option Nat} {N m v0 : Nat} {w : Int64} {h : z_H} (T : x_U L π h) (kv0 : qκ L v0 = 11) (wq : qhi L v0 1 = 240) (l0 : 0 ≤ vI h v0 1) (rm : vI h v0 1 + q_cn w 2 ≤ 240 ∧ 0 ≤ vI h v0 1 + q_cn w 2) : qi (f_SF_addText_2 N m v0 w 6 h) (fun r => x_U L π r ∧ vI r v0 1 = vI h v0 1 + q_cn w 2 ∧ ∀ j, 0 ≤ j → vA r (v0 + 1) j = x_app w 2 (vA h (v0 + 1)) (vI h v0 1) j) := by
  intro r e
  cases m with
  | zero => rw [f_SF_addText_2] at e; cases e
  | succ m =>
    rw [f_SF_addText_2, if_neg (by decide)] at e
    have eb : f_SF_byteOf N w 6 h = some (q_by w 6, h) := by rw [← q_by6]; rfl
    rw [eb, z_b_some] at e
    dsimp only at e
    rw [z_b_some] at e
    by_cases c : q_by w 6 = 0
    · rw [if_pos c, z_b_some, show (6 : Int32) + 1 = 7 from by decide] at e
      rw [q_cn_2, if_pos c] at rm
      have s := x_aT_1 T kv0 wq l0 rm r e
      exact ⟨s.1, by rw [q_cn_2, if_pos c]; exact s.2.1, fun j j0 => by rw [show x_app w 2 (vA h (v0 + 1)) (vI h v0 1) = x_app w 1 (vA h (v0 + 1)) (vI h v0 1) from if_pos c]; exact s.2.2 j j0⟩
    · rw [if_neg c] at e
      obtain ⟨_, _, e⟩ := z_bs e
      obtain ⟨h1, e1, e⟩ := z_bs e
      rw [z_b_some, show (6 : Int32) + 1 = 7 from by decide] at e
      rw [q_cn_2, if_neg c] at rm
      have cr := q_cnr_1 w
      obtain ⟨T1, g0, g1, _, _⟩ := i_Row_add T kv0 (by rw [wq]; exact x_rm1 l0 rm cr (by decide)) h1 e1
      have s := x_aT_1 T1 kv0 wq (by rw [g0]; exact x_rm2 l0 rm cr (by decide)) (by rw [g0]; exact x_rm3 l0 rm cr (by decide)) r e
      refine ⟨s.1, ?_, fun j j0 => ?_⟩
      · rw [s.2.1, g0, q_cn_2, if_neg c]; exact x_rm4
      · rw [s.2.2 j j0, g0, show x_app w 2 (vA h (v0 + 1)) (vI h v0 1) = x_app w 1 (x_up (vA h (v0 + 1)) (vI h v0 1) (q_by w 6)) (vI h v0 1 + 1) from if_neg c]
        refine x_app_cg w 1 _ _ _ (fun k k0 => ?_) j j0
        rw [g1 k k0]
        unfold x_up
        rw [x_nar2 (x_byr w 6).1 (x_byr w 6).2]
theorem x_aT_3 {L : q_L} {π : Nat → Nat → Option Nat} {N m v0 : Nat} {w : Int64} {h : z_H} (T : x_U L π h) (kv0 : qκ L v0 = 11) (wq : qhi L v0 1 = 240) (l0 : 0 ≤ vI h v0 1) (rm : vI h v0 1 + q_cn w 3 ≤ 240 ∧ 0 ≤ vI h v0 1 + q_cn w 3) : qi (f_SF_addText_2 N m v0 w 5 h) (fun r => x_U L π r ∧ vI r v0 1 = vI h v0 1 + q_cn w 3 ∧ ∀ j, 0 ≤ j → vA r (v0 + 1) j = x_app w 3 (vA h (v0 + 1)) (vI h v0 1) j) := by
  intro r e
  cases m with
  | zero => rw [f_SF_addText_2] at e; cases e
  | succ m =>
    rw [f_SF_addText_2, if_neg (by decide)] at e
    have eb : f_SF_byteOf N w 5 h = some (q_by w 5, h) := by rw [← q_by5]; rfl
    rw [eb, z_b_some] at e
    dsimp only at e
    rw [z_b_some] at e
    by_cases c : q_by w 5 = 0
    · rw [if_pos c, z_b_some, show (5 : Int32) + 1 = 6 from by decide] at e
      rw [q_cn_3, if_pos c] at rm
      have s := x_aT_2 T kv0 wq l0 rm r e
      exact ⟨s.1, by rw [q_cn_3, if_pos c]; exact s.2.1, fun j j0 => by rw [show x_app w 3 (vA h (v0 + 1)) (vI h v0 1) = x_app w 2 (vA h (v0 + 1)) (vI h v0 1) from if_pos c]; exact s.2.2 j j0⟩
    · rw [if_neg c] at e
      obtain ⟨_, _, e⟩ := z_bs e
      obtain ⟨h1, e1, e⟩ := z_bs e
      rw [z_b_some, show (5 : Int32) + 1 = 6 from by decide] at e
      rw [q_cn_3, if_neg c] at rm
      have cr := q_cnr_2 w
      obtain ⟨T1, g0, g1, _, _⟩ := i_Row_add T kv0 (by rw [wq]; exact x_rm1 l0 rm cr (by decide)) h1 e1
      have s := x_aT_2 T1 kv0 wq (by rw [g0]; exact x_rm2 l0 rm cr (by decide)) (by rw [g0]; exact x_rm3 l0 rm cr (by decide)) r e
      refine ⟨s.1, ?_, fun j j0 => ?_⟩
      · rw [s.2.1, g0, q_cn_3, if_neg c]; exact x_rm4
      · rw [s.2.2 j j0, g0, show x_app w 3 (vA h (v0 + 1)) (vI h v0 1) = x_app w 2 (x_up (vA h (v0 + 1)) (vI h v0 1) (q_by w 5)) (vI h v0 1 + 1) from if_neg c]
        refine x_app_cg w 2 _ _ _ (fun k k0 => ?_) j j0
        rw [g1 k k0]
        unfold x_up
        rw [x_nar2 (x_byr w 5).1 (x_byr w 5).2]
theorem x_aT_4 {L : q_L} {π : Nat → Nat → Option Nat} {N m v0 : Nat} {w : Int64} {h : z_H} (T : x_U L π h) (kv0 : qκ L v0 = 11) (wq : qhi L v0 1 = 240) (l0 : 0 ≤ vI h v0 1) (rm : vI h v0 1 + q_cn w 4 ≤ 240 ∧ 0 ≤ vI h v0 1 + q_cn w 4) : qi (f_SF_addText_2 N m v0 w 4 h) (fun r => x_U L π r ∧ vI r v0 1 = vI h v0 1 + q_cn w 4 ∧ ∀ j, 0 ≤ j → vA r (v0 + 1) j = x_app w 4 (vA h (v0 + 1)) (vI h v0 1) j) := by
  intro r e
  cases m with
  | zero => rw [f_SF_addText_2] at e; cases e
  | succ m =>
    rw [f_SF_addText_2, if_neg (by decide)] at e
    have eb : f_SF_byteOf N w 4 h = some (q_by w 4, h) := by rw [← q_by4]; rfl
    rw [eb, z_b_some] at e
    dsimp only at e
    rw [z_b_some] at e
    by_cases c : q_by w 4 = 0
    · rw [if_pos c, z_b_some, show (4 : Int32) + 1 = 5 from by decide] at e
      rw [q_cn_4, if_pos c] at rm
      have s := x_aT_3 T kv0 wq l0 rm r e
      exact ⟨s.1, by rw [q_cn_4, if_pos c]; exact s.2.1, fun j j0 => by rw [show x_app w 4 (vA h (v0 + 1)) (vI h v0 1) = x_app w 3 (vA h (v0 + 1)) (vI h v0 1) from if_pos c]; exact s.2.2 j j0⟩
    · rw [if_neg c] at e
      obtain ⟨_, _, e⟩ := z_bs e
      obtain ⟨h1, e1, e⟩ := z_bs e
      rw [z_b_some, show (4 : Int32) + 1 = 5 from by decide] at e
      rw [q_cn_4, if_neg c] at rm
      have cr := q_cnr_3 w
      obtain ⟨T1, g0, g1, _, _⟩ := i_Row_add T kv0 (by rw [wq]; exact x_rm1 l0 rm cr (by decide)) h1 e1
      have s := x_aT_3 T1 kv0 wq (by rw [g0]; exact x_rm2 l0 rm cr (by decide)) (by rw [g0]; exact x_rm3 l0 rm cr (by decide)) r e
      refine ⟨s.1, ?_, fun j j0 => ?_⟩
      · rw [s.2.1, g0, q_cn_4, if_neg c]; exact x_rm4
      · rw [s.2.2 j j0, g0, show x_app w 4 (vA h (v0 + 1)) (vI h v0 1) = x_app w 3 (x_up (vA h (v0 + 1)) (vI h v0 1) (q_by w 4)) (vI h v0 1 + 1) from if_neg c]
        refine x_app_cg w 3 _ _ _ (fun k k0 => ?_) j j0
        rw [g1 k k0]
        unfold x_up
        rw [x_nar2 (x_byr w 4).1 (x_byr w 4).2]
theorem x_aT_5 {L : q_L} {π : Nat → Nat → Option Nat} {N m v0 : Nat} {w : Int64} {h : z_H} (T : x_U L π h) (kv0 : qκ L v0 = 11) (wq : qhi L v0 1 = 240) (l0 : 0 ≤ vI h v0 1) (rm : vI h v0 1 + q_cn w 5 ≤ 240 ∧ 0 ≤ vI h v0 1 + q_cn w 5) : qi (f_SF_addText_2 N m v0 w 3 h) (fun r => x_U L π r ∧ vI r v0 1 = vI h v0 1 + q_cn w 5 ∧ ∀ j, 0 ≤ j → vA r (v0 + 1) j = x_app w 5 (vA h (v0 + 1)) (vI h v0 1) j) := by
  intro r e
  cases m with
  | zero => rw [f_SF_addText_2] at e; cases e
  | succ m =>
    rw [f_SF_addText_2, if_neg (by decide)] at e
    have eb : f_SF_byteOf N w 3 h = some (q_by w 3, h) := by rw [← q_by3]; rfl
    rw [eb, z_b_some] at e
    dsimp only at e
    rw [z_b_some] at e
    by_cases c : q_by w 3 = 0
    · rw [if_pos c, z_b_some, show (3 : Int32) + 1 = 4 from by decide] at e
      rw [q_cn_5, if_pos c] at rm
      have s := x_aT_4 T kv0 wq l0 rm r e
      exact ⟨s.1, by rw [q_cn_5, if_pos c]; exact s.2.1, fun j j0 => by rw [show x_app w 5 (vA h (v0 + 1)) (vI h v0 1) = x_app w 4 (vA h (v0 + 1)) (vI h v0 1) from if_pos c]; exact s.2.2 j j0⟩
    · rw [if_neg c] at e
      obtain ⟨_, _, e⟩ := z_bs e
      obtain ⟨h1, e1, e⟩ := z_bs e
      rw [z_b_some, show (3 : Int32) + 1 = 4 from by decide] at e
      rw [q_cn_5, if_neg c] at rm
      have cr := q_cnr_4 w
      obtain ⟨T1, g0, g1, _, _⟩ := i_Row_add T kv0 (by rw [wq]; exact x_rm1 l0 rm cr (by decide)) h1 e1
      have s := x_aT_4 T1 kv0 wq (by rw [g0]; exact x_rm2 l0 rm cr (by decide)) (by rw [g0]; exact x_rm3 l0 rm cr (by decide)) r e
      refine ⟨s.1, ?_, fun j j0 => ?_⟩
      · rw [s.2.1, g0, q_cn_5, if_neg c]; exact x_rm4
      · rw [s.2.2 j j0, g0, show x_app w 5 (vA h (v0 + 1)) (vI h v0 1) = x_app w 4 (x_up (vA h (v0 + 1)) (vI h v0 1) (q_by w 3)) (vI h v0 1 + 1) from if_neg c]
        refine x_app_cg w 4 _ _ _ (fun k k0 => ?_) j j0
        rw [g1 k k0]
        unfold x_up
        rw [x_nar2 (x_byr w 3).1 (x_byr w 3).2]
theorem x_aT_6 {L : q_L} {π : Nat → Nat → Option Nat} {N m v0 : Nat} {w : Int64} {h : z_H} (T : x_U L π h) (kv0 : qκ L v0 = 11) (wq : qhi L v0 1 = 240) (l0 : 0 ≤ vI h v0 1) (rm : vI h v0 1 + q_cn w 6 ≤ 240 ∧ 0 ≤ vI h v0 1 + q_cn w 6) : qi (f_SF_addText_2 N m v0 w 2 h) (fun r => x_U L π r ∧ vI r v0 1 = vI h v0 1 + q_cn w 6 ∧ ∀ j, 0 ≤ j → vA r (v0 + 1) j = x_app w 6 (vA h (v0 + 1)) (vI h v0 1) j) := by
  intro r e
  cases m with
  | zero => rw [f_SF_addText_2] at e; cases e
  | succ m =>
    rw [f_SF_addText_2, if_neg (by decide)] at e
    have eb : f_SF_byteOf N w 2 h = some (q_by w 2, h) := by rw [← q_by2]; rfl
    rw [eb, z_b_some] at e
    dsimp only at e
    rw [z_b_some] at e
    by_cases c : q_by w 2 = 0
    · rw [if_pos c, z_b_some, show (2 : Int32) + 1 = 3 from by decide] at e
      rw [q_cn_6, if_pos c] at rm
      have s := x_aT_5 T kv0 wq l0 rm r e
      exact ⟨s.1, by rw [q_cn_6, if_pos c]; exact s.2.1, fun j j0 => by rw [show x_app w 6 (vA h (v0 + 1)) (vI h v0 1) = x_app w 5 (vA h (v0 + 1)) (vI h v0 1) from if_pos c]; exact s.2.2 j j0⟩
    · rw [if_neg c] at e
      obtain ⟨_, _, e⟩ := z_bs e
      obtain ⟨h1, e1, e⟩ := z_bs e
      rw [z_b_some, show (2 : Int32) + 1 = 3 from by decide] at e
      rw [q_cn_6, if_neg c] at rm
      have cr := q_cnr_5 w
      obtain ⟨T1, g0, g1, _, _⟩ := i_Row_add T kv0 (by rw [wq]; exact x_rm1 l0 rm cr (by decide)) h1 e1
      have s := x_aT_5 T1 kv0 wq (by rw [g0]; exact x_rm2 l0 rm cr (by decide)) (by rw [g0]; exact x_rm3 l0 rm cr (by decide)) r e
      refine ⟨s.1, ?_, fun j j0 => ?_⟩
      · rw [s.2.1, g0, q_cn_6, if_neg c]; exact x_rm4
      · rw [s.2.2 j j0, g0, show x_app w 6 (vA h (v0 + 1)) (vI h v0 1) = x_app w 5 (x_up (vA h (v0 + 1)) (vI h v0 1) (q_by w 2)) (vI h v0 1 + 1) from if_neg c]
        refine x_app_cg w 5 _ _ _ (fun k k0 => ?_) j j0
        rw [g1 k k0]
        unfold x_up
        rw [x_nar2 (x_byr w 2).1 (x_byr w 2).2]
theorem x_aT_7 {L : q_L} {π : Nat → Nat → Option Nat} {N m v0 : Nat} {w : Int64} {h : z_H} (T : x_U L π h) (kv0 : qκ L v0 = 11) (wq : qhi L v0 1 = 240) (l0 : 0 ≤ vI h v0 1) (rm : vI h v0 1 + q_cn w 7 ≤ 240 ∧ 0 ≤ vI h v0 1 + q_cn w 7) : qi (f_SF_addText_2 N m v0 w 1 h) (fun r => x_U L π r ∧ vI r v0 1 = vI h v0 1 + q_cn w 7 ∧ ∀ j, 0 ≤ j → vA r (v0 + 1) j = x_app w 7 (vA h (v0 + 1)) (vI h v0 1) j) := by
  intro r e
  cases m with
  | zero => rw [f_SF_addText_2] at e; cases e
  | succ m =>
    rw [f_SF_addText_2, if_neg (by decide)] at e
    have eb : f_SF_byteOf N w 1 h = some (q_by w 1, h) := by rw [← q_by1]; rfl
    rw [eb, z_b_some] at e
    dsimp only at e
    rw [z_b_some] at e
    by_cases c : q_by w 1 = 0
    · rw [if_pos c, z_b_some, show (1 : Int32) + 1 = 2 from by decide] at e
      rw [q_cn_7, if_pos c] at rm
      have s := x_aT_6 T kv0 wq l0 rm r e
      exact ⟨s.1, by rw [q_cn_7, if_pos c]; exact s.2.1, fun j j0 => by rw [show x_app w 7 (vA h (v0 + 1)) (vI h v0 1) = x_app w 6 (vA h (v0 + 1)) (vI h v0 1) from if_pos c]; exact s.2.2 j j0⟩
    · rw [if_neg c] at e
      obtain ⟨_, _, e⟩ := z_bs e
      obtain ⟨h1, e1, e⟩ := z_bs e
      rw [z_b_some, show (1 : Int32) + 1 = 2 from by decide] at e
      rw [q_cn_7, if_neg c] at rm
      have cr := q_cnr_6 w
      obtain ⟨T1, g0, g1, _, _⟩ := i_Row_add T kv0 (by rw [wq]; exact x_rm1 l0 rm cr (by decide)) h1 e1
      have s := x_aT_6 T1 kv0 wq (by rw [g0]; exact x_rm2 l0 rm cr (by decide)) (by rw [g0]; exact x_rm3 l0 rm cr (by decide)) r e
      refine ⟨s.1, ?_, fun j j0 => ?_⟩
      · rw [s.2.1, g0, q_cn_7, if_neg c]; exact x_rm4
      · rw [s.2.2 j j0, g0, show x_app w 7 (vA h (v0 + 1)) (vI h v0 1) = x_app w 6 (x_up (vA h (v0 + 1)) (vI h v0 1) (q_by w 1)) (vI h v0 1 + 1) from if_neg c]
        refine x_app_cg w 6 _ _ _ (fun k k0 => ?_) j j0
        rw [g1 k k0]
        unfold x_up
        rw [x_nar2 (x_byr w 1).1 (x_byr w 1).2]
theorem x_aT_8 {L : q_L} {π : Nat → Nat → Option Nat} {N m v0 : Nat} {w : Int64} {h : z_H} (T : x_U L π h) (kv0 : qκ L v0 = 11) (wq : qhi L v0 1 = 240) (l0 : 0 ≤ vI h v0 1) (rm : vI h v0 1 + q_cn w 8 ≤ 240 ∧ 0 ≤ vI h v0 1 + q_cn w 8) : qi (f_SF_addText_2 N m v0 w 0 h) (fun r => x_U L π r ∧ vI r v0 1 = vI h v0 1 + q_cn w 8 ∧ ∀ j, 0 ≤ j → vA r (v0 + 1) j = x_app w 8 (vA h (v0 + 1)) (vI h v0 1) j) := by
  intro r e
  cases m with
  | zero => rw [f_SF_addText_2] at e; cases e
  | succ m =>
    rw [f_SF_addText_2, if_neg (by decide)] at e
    have eb : f_SF_byteOf N w 0 h = some (q_by w 0, h) := by rw [← q_by0]; rfl
    rw [eb, z_b_some] at e
    dsimp only at e
    rw [z_b_some] at e
    by_cases c : q_by w 0 = 0
    · rw [if_pos c, z_b_some, show (0 : Int32) + 1 = 1 from by decide] at e
      rw [q_cn_8, if_pos c] at rm
      have s := x_aT_7 T kv0 wq l0 rm r e
      exact ⟨s.1, by rw [q_cn_8, if_pos c]; exact s.2.1, fun j j0 => by rw [show x_app w 8 (vA h (v0 + 1)) (vI h v0 1) = x_app w 7 (vA h (v0 + 1)) (vI h v0 1) from if_pos c]; exact s.2.2 j j0⟩
    · rw [if_neg c] at e
      obtain ⟨_, _, e⟩ := z_bs e
      obtain ⟨h1, e1, e⟩ := z_bs e
      rw [z_b_some, show (0 : Int32) + 1 = 1 from by decide] at e
      rw [q_cn_8, if_neg c] at rm
      have cr := q_cnr_7 w
      obtain ⟨T1, g0, g1, _, _⟩ := i_Row_add T kv0 (by rw [wq]; exact x_rm1 l0 rm cr (by decide)) h1 e1
      have s := x_aT_7 T1 kv0 wq (by rw [g0]; exact x_rm2 l0 rm cr (by decide)) (by rw [g0]; exact x_rm3 l0 rm cr (by decide)) r e
      refine ⟨s.1, ?_, fun j j0 => ?_⟩
      · rw [s.2.1, g0, q_cn_8, if_neg c]; exact x_rm4
      · rw [s.2.2 j j0, g0, show x_app w 8 (vA h (v0 + 1)) (vI h v0 1) = x_app w 7 (x_up (vA h (v0 + 1)) (vI h v0 1) (q_by w 0)) (vI h v0 1 + 1) from if_neg c]
        refine x_app_cg w 7 _ _ _ (fun k k0 => ?_) j j0
        rw [g1 k k0]
        unfold x_up
        rw [x_nar2 (x_byr w 0).1 (x_byr w 0).2]
theorem x_sT_0 {L : q_L} {π : Nat → Nat → Option Nat} {N m v0 : Nat} {w : Int64} {h : z_H} (T : x_U L π h) (kv0 : q_M L π v0) : qi (f_Mod_script_43 N m v0 w (-8) h) (fun r => x_U L π r.2 ∧ r.1 = vI h v0 3 + q_cn w 0 ∧ vI r.2 v0 3 = vI h v0 3 + q_cn w 0 ∧ ∀ j, 0 ≤ j → vA r.2 (v0 + 1) j = x_app w 0 (vA h (v0 + 1)) (vI h v0 3) j) := by
  cases m with
  | zero => intro r e; rw [f_Mod_script_43] at e; cases e
  | succ m =>
    intro r e
    rw [f_Mod_script_43, if_pos (by decide)] at e
    refine (l_gI (f := fun x2 => some (x2, h)) (e := vI h v0 3) rfl (Q := fun r => x_U L π r.2 ∧ r.1 = vI h v0 3 + q_cn w 0 ∧ vI r.2 v0 3 = vI h v0 3 + q_cn w 0 ∧ ∀ j, 0 ≤ j → vA r.2 (v0 + 1) j = x_app w 0 (vA h (v0 + 1)) (vI h v0 3) j) ?_) r e
    refine qi_some ⟨T, ?_, ?_, fun j j0 => rfl⟩
    · show vI h v0 3 = vI h v0 3 + q_cn w 0; rw [q_cn_0, Int32.add_zero]
    · show vI h v0 3 = vI h v0 3 + q_cn w 0; rw [q_cn_0, Int32.add_zero]
theorem x_sT_1 {L : q_L} {π : Nat → Nat → Option Nat} {N m v0 : Nat} {w : Int64} {h : z_H} (T : x_U L π h) (kv0 : q_M L π v0) : qi (f_Mod_script_43 N m v0 w 0 h) (fun r => x_U L π r.2 ∧ r.1 = vI h v0 3 + q_cn w 1 ∧ vI r.2 v0 3 = vI h v0 3 + q_cn w 1 ∧ ∀ j, 0 ≤ j → vA r.2 (v0 + 1) j = x_app w 1 (vA h (v0 + 1)) (vI h v0 3) j) := by
  cases m with
  | zero => intro r e; rw [f_Mod_script_43] at e; cases e
  | succ m =>
    rw [f_Mod_script_43, if_neg (by decide)]
    refine qi_bs ?_
    have eb : (Int64.toInt32 (w >>> (Int32.toInt64 0 &&& 63))) &&& 255 = q_by w 7 := rfl
    rw [eb]
    refine qi_if (fun c => ?_) (fun c => ?_)
    · refine qi_bs ?_
      rw [show (0 : Int32) + (-8) = (-8) from by decide, q_cn_1, if_pos c, show x_app w 1 (vA h (v0 + 1)) (vI h v0 3) = x_app w 0 (vA h (v0 + 1)) (vI h v0 3) from if_pos c]
      exact x_sT_0 T kv0
    · refine l_gR T (d_Mo_0 kv0) ?_
      refine l_gI (e := vI h v0 3) rfl ?_
      refine l_uI T ?_
      intro h7 T7 j7 i7 a7 b7
      refine l_gI (e := vI h v0 3) (by rw [i7]) ?_
      refine l_sI T7 (q_Mk kv0) (by decide) rfl ?_
      intro h9 T9 i9 a9
      refine qi_bs ?_
      rw [show (0 : Int32) + (-8) = (-8) from by decide]
      have e3 : vI h9 v0 3 = vI h v0 3 + 1 := by rw [i9 v0 3, if_pos ⟨rfl, rfl⟩]
      refine qi_mono (x_sT_0 T9 kv0) ?_
      rintro r ⟨t1, t2, t3, t4⟩
      refine ⟨t1, ?_, ?_, fun j j0 => ?_⟩
      · rw [t2, e3, q_cn_1, if_neg c]; exact x_rm4
      · rw [t3, e3, q_cn_1, if_neg c]; exact x_rm4
      · rw [t4 j j0, e3, show x_app w 1 (vA h (v0 + 1)) (vI h v0 3) = x_app w 0 (x_up (vA h (v0 + 1)) (vI h v0 3) (q_by w 7)) (vI h v0 3 + 1) from if_neg c]
        refine x_app_cg w 0 _ _ _ (fun k k0 => ?_) j j0
        rw [a9 (v0 + 1), a7 (v0 + 1) k k0]
        unfold x_up
        by_cases q : k = vI h v0 3
        · rw [if_pos ⟨rfl, q⟩, if_pos q]
        · rw [if_neg (fun z => q z.2), if_neg q]
theorem x_sT_2 {L : q_L} {π : Nat → Nat → Option Nat} {N m v0 : Nat} {w : Int64} {h : z_H} (T : x_U L π h) (kv0 : q_M L π v0) : qi (f_Mod_script_43 N m v0 w 8 h) (fun r => x_U L π r.2 ∧ r.1 = vI h v0 3 + q_cn w 2 ∧ vI r.2 v0 3 = vI h v0 3 + q_cn w 2 ∧ ∀ j, 0 ≤ j → vA r.2 (v0 + 1) j = x_app w 2 (vA h (v0 + 1)) (vI h v0 3) j) := by
  cases m with
  | zero => intro r e; rw [f_Mod_script_43] at e; cases e
  | succ m =>
    rw [f_Mod_script_43, if_neg (by decide)]
    refine qi_bs ?_
    have eb : (Int64.toInt32 (w >>> (Int32.toInt64 8 &&& 63))) &&& 255 = q_by w 6 := rfl
    rw [eb]
    refine qi_if (fun c => ?_) (fun c => ?_)
    · refine qi_bs ?_
      rw [show (8 : Int32) + (-8) = 0 from by decide, q_cn_2, if_pos c, show x_app w 2 (vA h (v0 + 1)) (vI h v0 3) = x_app w 1 (vA h (v0 + 1)) (vI h v0 3) from if_pos c]
      exact x_sT_1 T kv0
    · refine l_gR T (d_Mo_0 kv0) ?_
      refine l_gI (e := vI h v0 3) rfl ?_
      refine l_uI T ?_
      intro h7 T7 j7 i7 a7 b7
      refine l_gI (e := vI h v0 3) (by rw [i7]) ?_
      refine l_sI T7 (q_Mk kv0) (by decide) rfl ?_
      intro h9 T9 i9 a9
      refine qi_bs ?_
      rw [show (8 : Int32) + (-8) = 0 from by decide]
      have e3 : vI h9 v0 3 = vI h v0 3 + 1 := by rw [i9 v0 3, if_pos ⟨rfl, rfl⟩]
      refine qi_mono (x_sT_1 T9 kv0) ?_
      rintro r ⟨t1, t2, t3, t4⟩
      refine ⟨t1, ?_, ?_, fun j j0 => ?_⟩
      · rw [t2, e3, q_cn_2, if_neg c]; exact x_rm4
      · rw [t3, e3, q_cn_2, if_neg c]; exact x_rm4
      · rw [t4 j j0, e3, show x_app w 2 (vA h (v0 + 1)) (vI h v0 3) = x_app w 1 (x_up (vA h (v0 + 1)) (vI h v0 3) (q_by w 6)) (vI h v0 3 + 1) from if_neg c]
        refine x_app_cg w 1 _ _ _ (fun k k0 => ?_) j j0
        rw [a9 (v0 + 1), a7 (v0 + 1) k k0]
        unfold x_up
        by_cases q : k = vI h v0 3
        · rw [if_pos ⟨rfl, q⟩, if_pos q]
        · rw [if_neg (fun z => q z.2), if_neg q]
theorem x_sT_3 {L : q_L} {π : Nat → Nat → Option Nat} {N m v0 : Nat} {w : Int64} {h : z_H} (T : x_U L π h) (kv0 : q_M L π v0) : qi (f_Mod_script_43 N m v0 w 16 h) (fun r => x_U L π r.2 ∧ r.1 = vI h v0 3 + q_cn w 3 ∧ vI r.2 v0 3 = vI h v0 3 + q_cn w 3 ∧ ∀ j, 0 ≤ j → vA r.2 (v0 + 1) j = x_app w 3 (vA h (v0 + 1)) (vI h v0 3) j) := by
  cases m with
  | zero => intro r e; rw [f_Mod_script_43] at e; cases e
  | succ m =>
    rw [f_Mod_script_43, if_neg (by decide)]
    refine qi_bs ?_
    have eb : (Int64.toInt32 (w >>> (Int32.toInt64 16 &&& 63))) &&& 255 = q_by w 5 := rfl
    rw [eb]
    refine qi_if (fun c => ?_) (fun c => ?_)
    · refine qi_bs ?_
      rw [show (16 : Int32) + (-8) = 8 from by decide, q_cn_3, if_pos c, show x_app w 3 (vA h (v0 + 1)) (vI h v0 3) = x_app w 2 (vA h (v0 + 1)) (vI h v0 3) from if_pos c]
      exact x_sT_2 T kv0
    · refine l_gR T (d_Mo_0 kv0) ?_
      refine l_gI (e := vI h v0 3) rfl ?_
      refine l_uI T ?_
      intro h7 T7 j7 i7 a7 b7
      refine l_gI (e := vI h v0 3) (by rw [i7]) ?_
      refine l_sI T7 (q_Mk kv0) (by decide) rfl ?_
      intro h9 T9 i9 a9
      refine qi_bs ?_
      rw [show (16 : Int32) + (-8) = 8 from by decide]
      have e3 : vI h9 v0 3 = vI h v0 3 + 1 := by rw [i9 v0 3, if_pos ⟨rfl, rfl⟩]
      refine qi_mono (x_sT_2 T9 kv0) ?_
      rintro r ⟨t1, t2, t3, t4⟩
      refine ⟨t1, ?_, ?_, fun j j0 => ?_⟩
      · rw [t2, e3, q_cn_3, if_neg c]; exact x_rm4
      · rw [t3, e3, q_cn_3, if_neg c]; exact x_rm4
      · rw [t4 j j0, e3, show x_app w 3 (vA h (v0 + 1)) (vI h v0 3) = x_app w 2 (x_up (vA h (v0 + 1)) (vI h v0 3) (q_by w 5)) (vI h v0 3 + 1) from if_neg c]
        refine x_app_cg w 2 _ _ _ (fun k k0 => ?_) j j0
        rw [a9 (v0 + 1), a7 (v0 + 1) k k0]
        unfold x_up
        by_cases q : k = vI h v0 3
        · rw [if_pos ⟨rfl, q⟩, if_pos q]
        · rw [if_neg (fun z => q z.2), if_neg q]
theorem x_sT_4 {L : q_L} {π : Nat → Nat → Option Nat} {N m v0 : Nat} {w : Int64} {h : z_H} (T : x_U L π h) (kv0 : q_M L π v0) : qi (f_Mod_script_43 N m v0 w 24 h) (fun r => x_U L π r.2 ∧ r.1 = vI h v0 3 + q_cn w 4 ∧ vI r.2 v0 3 = vI h v0 3 + q_cn w 4 ∧ ∀ j, 0 ≤ j → vA r.2 (v0 + 1) j = x_app w 4 (vA h (v0 + 1)) (vI h v0 3) j) := by
  cases m with
  | zero => intro r e; rw [f_Mod_script_43] at e; cases e
  | succ m =>
    rw [f_Mod_script_43, if_neg (by decide)]
    refine qi_bs ?_
    have eb : (Int64.toInt32 (w >>> (Int32.toInt64 24 &&& 63))) &&& 255 = q_by w 4 := rfl
    rw [eb]
    refine qi_if (fun c => ?_) (fun c => ?_)
    · refine qi_bs ?_
      rw [show (24 : Int32) + (-8) = 16 from by decide, q_cn_4, if_pos c, show x_app w 4 (vA h (v0 + 1)) (vI h v0 3) = x_app w 3 (vA h (v0 + 1)) (vI h v0 3) from if_pos c]
      exact x_sT_3 T kv0
    · refine l_gR T (d_Mo_0 kv0) ?_
      refine l_gI (e := vI h v0 3) rfl ?_
      refine l_uI T ?_
      intro h7 T7 j7 i7 a7 b7
      refine l_gI (e := vI h v0 3) (by rw [i7]) ?_
      refine l_sI T7 (q_Mk kv0) (by decide) rfl ?_
      intro h9 T9 i9 a9
      refine qi_bs ?_
      rw [show (24 : Int32) + (-8) = 16 from by decide]
      have e3 : vI h9 v0 3 = vI h v0 3 + 1 := by rw [i9 v0 3, if_pos ⟨rfl, rfl⟩]
      refine qi_mono (x_sT_3 T9 kv0) ?_
      rintro r ⟨t1, t2, t3, t4⟩
      refine ⟨t1, ?_, ?_, fun j j0 => ?_⟩
      · rw [t2, e3, q_cn_4, if_neg c]; exact x_rm4
      · rw [t3, e3, q_cn_4, if_neg c]; exact x_rm4
      · rw [t4 j j0, e3, show x_app w 4 (vA h (v0 + 1)) (vI h v0 3) = x_app w 3 (x_up (vA h (v0 + 1)) (vI h v0 3) (q_by w 4)) (vI h v0 3 + 1) from if_neg c]
        refine x_app_cg w 3 _ _ _ (fun k k0 => ?_) j j0
        rw [a9 (v0 + 1), a7 (v0 + 1) k k0]
        unfold x_up
        by_cases q : k = vI h v0 3
        · rw [if_pos ⟨rfl, q⟩, if_pos q]
        · rw [if_neg (fun z => q z.2), if_neg q]
theorem x_sT_5 {L : q_L} {π : Nat → Nat → Option Nat} {N m v0 : Nat} {w : Int64} {h : z_H} (T : x_U L π h) (kv0 : q_M L π v0) : qi (f_Mod_script_43 N m v0 w 32 h) (fun r => x_U L π r.2 ∧ r.1 = vI h v0 3 + q_cn w 5 ∧ vI r.2 v0 3 = vI h v0 3 + q_cn w 5 ∧ ∀ j, 0 ≤ j → vA r.2 (v0 + 1) j = x_app w 5 (vA h (v0 + 1)) (vI h v0 3) j) := by
  cases m with
  | zero => intro r e; rw [f_Mod_script_43] at e; cases e
  | succ m =>
    rw [f_Mod_script_43, if_neg (by decide)]
    refine qi_bs ?_
    have eb : (Int64.toInt32 (w >>> (Int32.toInt64 32 &&& 63))) &&& 255 = q_by w 3 := rfl
    rw [eb]
    refine qi_if (fun c => ?_) (fun c => ?_)
    · refine qi_bs ?_
      rw [show (32 : Int32) + (-8) = 24 from by decide, q_cn_5, if_pos c, show x_app w 5 (vA h (v0 + 1)) (vI h v0 3) = x_app w 4 (vA h (v0 + 1)) (vI h v0 3) from if_pos c]
      exact x_sT_4 T kv0
    · refine l_gR T (d_Mo_0 kv0) ?_
      refine l_gI (e := vI h v0 3) rfl ?_
      refine l_uI T ?_
      intro h7 T7 j7 i7 a7 b7
      refine l_gI (e := vI h v0 3) (by rw [i7]) ?_
      refine l_sI T7 (q_Mk kv0) (by decide) rfl ?_
      intro h9 T9 i9 a9
      refine qi_bs ?_
      rw [show (32 : Int32) + (-8) = 24 from by decide]
      have e3 : vI h9 v0 3 = vI h v0 3 + 1 := by rw [i9 v0 3, if_pos ⟨rfl, rfl⟩]
      refine qi_mono (x_sT_4 T9 kv0) ?_
      rintro r ⟨t1, t2, t3, t4⟩
      refine ⟨t1, ?_, ?_, fun j j0 => ?_⟩
      · rw [t2, e3, q_cn_5, if_neg c]; exact x_rm4
      · rw [t3, e3, q_cn_5, if_neg c]; exact x_rm4
      · rw [t4 j j0, e3, show x_app w 5 (vA h (v0 + 1)) (vI h v0 3) = x_app w 4 (x_up (vA h (v0 + 1)) (vI h v0 3) (q_by w 3)) (vI h v0 3 + 1) from if_neg c]
        refine x_app_cg w 4 _ _ _ (fun k k0 => ?_) j j0
        rw [a9 (v0 + 1), a7 (v0 + 1) k k0]
        unfold x_up
        by_cases q : k = vI h v0 3
        · rw [if_pos ⟨rfl, q⟩, if_pos q]
        · rw [if_neg (fun z => q z.2), if_neg q]
theorem x_sT_6 {L : q_L} {π : Nat → Nat → Option Nat} {N m v0 : Nat} {w : Int64} {h : z_H} (T : x_U L π h) (kv0 : q_M L π v0) : qi (f_Mod_script_43 N m v0 w 40 h) (fun r => x_U L π r.2 ∧ r.1 = vI h v0 3 + q_cn w 6 ∧ vI r.2 v0 3 = vI h v0 3 + q_cn w 6 ∧ ∀ j, 0 ≤ j → vA r.2 (v0 + 1) j = x_app w 6 (vA h (v0 + 1)) (vI h v0 3) j) := by
  cases m with
  | zero => intro r e; rw [f_Mod_script_43] at e; cases e
  | succ m =>
    rw [f_Mod_script_43, if_neg (by decide)]
    refine qi_bs ?_
    have eb : (Int64.toInt32 (w >>> (Int32.toInt64 40 &&& 63))) &&& 255 = q_by w 2 := rfl
    rw [eb]
    refine qi_if (fun c => ?_) (fun c => ?_)
    · refine qi_bs ?_
      rw [show (40 : Int32) + (-8) = 32 from by decide, q_cn_6, if_pos c, show x_app w 6 (vA h (v0 + 1)) (vI h v0 3) = x_app w 5 (vA h (v0 + 1)) (vI h v0 3) from if_pos c]
      exact x_sT_5 T kv0
    · refine l_gR T (d_Mo_0 kv0) ?_
      refine l_gI (e := vI h v0 3) rfl ?_
      refine l_uI T ?_
      intro h7 T7 j7 i7 a7 b7
      refine l_gI (e := vI h v0 3) (by rw [i7]) ?_
      refine l_sI T7 (q_Mk kv0) (by decide) rfl ?_
      intro h9 T9 i9 a9
      refine qi_bs ?_
      rw [show (40 : Int32) + (-8) = 32 from by decide]
      have e3 : vI h9 v0 3 = vI h v0 3 + 1 := by rw [i9 v0 3, if_pos ⟨rfl, rfl⟩]
      refine qi_mono (x_sT_5 T9 kv0) ?_
      rintro r ⟨t1, t2, t3, t4⟩
      refine ⟨t1, ?_, ?_, fun j j0 => ?_⟩
      · rw [t2, e3, q_cn_6, if_neg c]; exact x_rm4
      · rw [t3, e3, q_cn_6, if_neg c]; exact x_rm4
      · rw [t4 j j0, e3, show x_app w 6 (vA h (v0 + 1)) (vI h v0 3) = x_app w 5 (x_up (vA h (v0 + 1)) (vI h v0 3) (q_by w 2)) (vI h v0 3 + 1) from if_neg c]
        refine x_app_cg w 5 _ _ _ (fun k k0 => ?_) j j0
        rw [a9 (v0 + 1), a7 (v0 + 1) k k0]
        unfold x_up
        by_cases q : k = vI h v0 3
        · rw [if_pos ⟨rfl, q⟩, if_pos q]
        · rw [if_neg (fun z => q z.2), if_neg q]
theorem x_sT_7 {L : q_L} {π : Nat → Nat → Option Nat} {N m v0 : Nat} {w : Int64} {h : z_H} (T : x_U L π h) (kv0 : q_M L π v0) : qi (f_Mod_script_43 N m v0 w 48 h) (fun r => x_U L π r.2 ∧ r.1 = vI h v0 3 + q_cn w 7 ∧ vI r.2 v0 3 = vI h v0 3 + q_cn w 7 ∧ ∀ j, 0 ≤ j → vA r.2 (v0 + 1) j = x_app w 7 (vA h (v0 + 1)) (vI h v0 3) j) := by
  cases m with
  | zero => intro r e; rw [f_Mod_script_43] at e; cases e
  | succ m =>
    rw [f_Mod_script_43, if_neg (by decide)]
    refine qi_bs ?_
    have eb : (Int64.toInt32 (w >>> (Int32.toInt64 48 &&& 63))) &&& 255 = q_by w 1 := rfl
    rw [eb]
    refine qi_if (fun c => ?_) (fun c => ?_)
    · refine qi_bs ?_
      rw [show (48 : Int32) + (-8) = 40 from by decide, q_cn_7, if_pos c, show x_app w 7 (vA h (v0 + 1)) (vI h v0 3) = x_app w 6 (vA h (v0 + 1)) (vI h v0 3) from if_pos c]
      exact x_sT_6 T kv0
    · refine l_gR T (d_Mo_0 kv0) ?_
      refine l_gI (e := vI h v0 3) rfl ?_
      refine l_uI T ?_
      intro h7 T7 j7 i7 a7 b7
      refine l_gI (e := vI h v0 3) (by rw [i7]) ?_
      refine l_sI T7 (q_Mk kv0) (by decide) rfl ?_
      intro h9 T9 i9 a9
      refine qi_bs ?_
      rw [show (48 : Int32) + (-8) = 40 from by decide]
      have e3 : vI h9 v0 3 = vI h v0 3 + 1 := by rw [i9 v0 3, if_pos ⟨rfl, rfl⟩]
      refine qi_mono (x_sT_6 T9 kv0) ?_
      rintro r ⟨t1, t2, t3, t4⟩
      refine ⟨t1, ?_, ?_, fun j j0 => ?_⟩
      · rw [t2, e3, q_cn_7, if_neg c]; exact x_rm4
      · rw [t3, e3, q_cn_7, if_neg c]; exact x_rm4
      · rw [t4 j j0, e3, show x_app w 7 (vA h (v0 + 1)) (vI h v0 3) = x_app w 6 (x_up (vA h (v0 + 1)) (vI h v0 3) (q_by w 1)) (vI h v0 3 + 1) from if_neg c]
        refine x_app_cg w 6 _ _ _ (fun k k0 => ?_) j j0
        rw [a9 (v0 + 1), a7 (v0 + 1) k k0]
        unfold x_up
        by_cases q : k = vI h v0 3
        · rw [if_pos ⟨rfl, q⟩, if_pos q]
        · rw [if_neg (fun z => q z.2), if_neg q]
theorem x_sT_8 {L : q_L} {π : Nat → Nat → Option Nat} {N m v0 : Nat} {w : Int64} {h : z_H} (T : x_U L π h) (kv0 : q_M L π v0) : qi (f_Mod_script_43 N m v0 w 56 h) (fun r => x_U L π r.2 ∧ r.1 = vI h v0 3 + q_cn w 8 ∧ vI r.2 v0 3 = vI h v0 3 + q_cn w 8 ∧ ∀ j, 0 ≤ j → vA r.2 (v0 + 1) j = x_app w 8 (vA h (v0 + 1)) (vI h v0 3) j) := by
  cases m with
  | zero => intro r e; rw [f_Mod_script_43] at e; cases e
  | succ m =>
    rw [f_Mod_script_43, if_neg (by decide)]
    refine qi_bs ?_
    have eb : (Int64.toInt32 (w >>> (Int32.toInt64 56 &&& 63))) &&& 255 = q_by w 0 := rfl
    rw [eb]
    refine qi_if (fun c => ?_) (fun c => ?_)
    · refine qi_bs ?_
      rw [show (56 : Int32) + (-8) = 48 from by decide, q_cn_8, if_pos c, show x_app w 8 (vA h (v0 + 1)) (vI h v0 3) = x_app w 7 (vA h (v0 + 1)) (vI h v0 3) from if_pos c]
      exact x_sT_7 T kv0
    · refine l_gR T (d_Mo_0 kv0) ?_
      refine l_gI (e := vI h v0 3) rfl ?_
      refine l_uI T ?_
      intro h7 T7 j7 i7 a7 b7
      refine l_gI (e := vI h v0 3) (by rw [i7]) ?_
      refine l_sI T7 (q_Mk kv0) (by decide) rfl ?_
      intro h9 T9 i9 a9
      refine qi_bs ?_
      rw [show (56 : Int32) + (-8) = 48 from by decide]
      have e3 : vI h9 v0 3 = vI h v0 3 + 1 := by rw [i9 v0 3, if_pos ⟨rfl, rfl⟩]
      refine qi_mono (x_sT_7 T9 kv0) ?_
      rintro r ⟨t1, t2, t3, t4⟩
      refine ⟨t1, ?_, ?_, fun j j0 => ?_⟩
      · rw [t2, e3, q_cn_8, if_neg c]; exact x_rm4
      · rw [t3, e3, q_cn_8, if_neg c]; exact x_rm4
      · rw [t4 j j0, e3, show x_app w 8 (vA h (v0 + 1)) (vI h v0 3) = x_app w 7 (x_up (vA h (v0 + 1)) (vI h v0 3) (q_by w 0)) (vI h v0 3 + 1) from if_neg c]
        refine x_app_cg w 7 _ _ _ (fun k k0 => ?_) j j0
        rw [a9 (v0 + 1), a7 (v0 + 1) k k0]
        unfold x_up
        by_cases q : k = vI h v0 3
        · rw [if_pos ⟨rfl, q⟩, if_pos q]
        · rw [if_neg (fun z => q z.2), if_neg q]
