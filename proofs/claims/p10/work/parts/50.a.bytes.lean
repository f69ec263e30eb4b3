theorem q_meF {F : Int64 → Int32 → Int32 → Int32 → z_H → Option (Int32 × z_H)} {N : Nat} {w : Int64} {nl c x k k1 y ok : Int32} {h : z_H} (d : k + (-8) = k1) (e1 : ∀ c, F w nl c k1 h = some (if ok = 1 then c + y else -1, h)) : (z_b (some x) fun x2 => if x2 = 0 then (z_b (some (k + (-8))) fun x12 => F w nl c x12 h) else (z_b (f_Mod_in N x2 32 126 h) fun r4 => if (r4.1) = 0 then (if nl = 0 then (some ((-1), r4.2)) else (if x2 = 10 then (z_b (some (c + 1)) fun x10 => z_b (some (k + (-8))) fun x11 => F w nl x10 x11 r4.2) else (some ((-1), r4.2)))) else (z_b (some (c + 1)) fun x6 => z_b (some (k + (-8))) fun x7 => F w nl x6 x7 r4.2))) = some (if (if x = 0 ∨ (32 ≤ x ∧ x ≤ 126) ∨ (nl ≠ 0 ∧ x = 10) then ok else 0) = 1 then c + (if x = 0 then y else y + 1) else -1, h) := by
  have as : c + 1 + y = c + (y + 1) := by rw [Int32.add_assoc, Int32.add_comm 1]
  show (if x = 0 then F w nl c (k + (-8)) h else z_b (f_Mod_in N x 32 126 h) _) = _
  rw [d]
  by_cases c0 : x = 0
  · rw [if_pos c0, if_pos c0, if_pos (Or.inl c0), e1]
  · rw [if_neg c0, if_neg c0]
    by_cases c1 : 32 ≤ x ∧ x ≤ 126
    · have ei : f_Mod_in N x 32 126 h = some (1, h) := by
        unfold f_Mod_in; rw [if_neg (Int32.not_lt.mpr c1.1), if_neg (Int32.not_lt.mpr c1.2)]
      rw [ei, z_b_some, if_neg (fun z => absurd (show (1 : Int32) = 0 from z) (by decide)), z_b_some, z_b_some, e1, as, if_pos (Or.inr (Or.inl c1))]
    · have ei : f_Mod_in N x 32 126 h = some (0, h) := by
        unfold f_Mod_in
        by_cases z : x < 32
        · rw [if_pos z]
        · rw [if_neg z, if_pos (Int32.not_le.mp (fun y => c1 ⟨Int32.not_lt.mp z, y⟩))]
      rw [ei, z_b_some, if_pos (show ((0 : Int32), h).1 = 0 from rfl), z_b_some, z_b_some, e1, as]
      by_cases c2 : nl = 0
      · rw [if_pos c2, if_neg (show ¬ (x = 0 ∨ (32 ≤ x ∧ x ≤ 126) ∨ (nl ≠ 0 ∧ x = 10)) from by rintro (z | z | z); exact c0 z; exact c1 z; exact z.1 c2), if_neg (by decide)]
      · rw [if_neg c2]
        by_cases c3 : x = 10
        · rw [if_pos c3, if_pos (show x = 0 ∨ (32 ≤ x ∧ x ≤ 126) ∨ (nl ≠ 0 ∧ x = 10) from Or.inr (Or.inr ⟨c2, c3⟩))]
        · rw [if_neg c3, if_neg (show ¬ (x = 0 ∨ (32 ≤ x ∧ x ≤ 126) ∨ (nl ≠ 0 ∧ x = 10)) from by rintro (z | z | z); exact c0 z; exact c1 z; exact c3 z.2), if_neg (by decide)]
theorem q_me_0 (N n : Nat) (w : Int64) (nl c : Int32) (h : z_H) : f_Mod_measure_6 N (n + 1) w nl c (-8) h = some (if q_okc w nl 0 = 1 then c + q_cn w 0 else -1, h) := by
  rw [f_Mod_measure_6, if_pos (by decide), q_okc_0, if_pos rfl, q_cn_0, Int32.add_zero]
theorem q_me_1 (N n : Nat) (w : Int64) (nl c : Int32) (h : z_H) : f_Mod_measure_6 N (n + 2) w nl c 0 h = some (if q_okc w nl 1 = 1 then c + q_cn w 1 else -1, h) := by
  have eb : (Int64.toInt32 (w >>> (Int32.toInt64 0 &&& 63))) &&& 255 = q_by w 7 := rfl
  rw [f_Mod_measure_6, if_neg (by decide), eb, q_cn_1, q_okc_1]
  exact q_meF (F := f_Mod_measure_6 N (n + 1)) (k := 0) (k1 := (-8)) (by decide) (fun c => q_me_0 N n w nl c h)
theorem q_me_2 (N n : Nat) (w : Int64) (nl c : Int32) (h : z_H) : f_Mod_measure_6 N (n + 3) w nl c 8 h = some (if q_okc w nl 2 = 1 then c + q_cn w 2 else -1, h) := by
  have eb : (Int64.toInt32 (w >>> (Int32.toInt64 8 &&& 63))) &&& 255 = q_by w 6 := rfl
  rw [f_Mod_measure_6, if_neg (by decide), eb, q_cn_2, q_okc_2]
  exact q_meF (F := f_Mod_measure_6 N (n + 2)) (k := 8) (k1 := 0) (by decide) (fun c => q_me_1 N n w nl c h)
theorem q_me_3 (N n : Nat) (w : Int64) (nl c : Int32) (h : z_H) : f_Mod_measure_6 N (n + 4) w nl c 16 h = some (if q_okc w nl 3 = 1 then c + q_cn w 3 else -1, h) := by
  have eb : (Int64.toInt32 (w >>> (Int32.toInt64 16 &&& 63))) &&& 255 = q_by w 5 := rfl
  rw [f_Mod_measure_6, if_neg (by decide), eb, q_cn_3, q_okc_3]
  exact q_meF (F := f_Mod_measure_6 N (n + 3)) (k := 16) (k1 := 8) (by decide) (fun c => q_me_2 N n w nl c h)
theorem q_me_4 (N n : Nat) (w : Int64) (nl c : Int32) (h : z_H) : f_Mod_measure_6 N (n + 5) w nl c 24 h = some (if q_okc w nl 4 = 1 then c + q_cn w 4 else -1, h) := by
  have eb : (Int64.toInt32 (w >>> (Int32.toInt64 24 &&& 63))) &&& 255 = q_by w 4 := rfl
  rw [f_Mod_measure_6, if_neg (by decide), eb, q_cn_4, q_okc_4]
  exact q_meF (F := f_Mod_measure_6 N (n + 4)) (k := 24) (k1 := 16) (by decide) (fun c => q_me_3 N n w nl c h)
theorem q_me_5 (N n : Nat) (w : Int64) (nl c : Int32) (h : z_H) : f_Mod_measure_6 N (n + 6) w nl c 32 h = some (if q_okc w nl 5 = 1 then c + q_cn w 5 else -1, h) := by
  have eb : (Int64.toInt32 (w >>> (Int32.toInt64 32 &&& 63))) &&& 255 = q_by w 3 := rfl
  rw [f_Mod_measure_6, if_neg (by decide), eb, q_cn_5, q_okc_5]
  exact q_meF (F := f_Mod_measure_6 N (n + 5)) (k := 32) (k1 := 24) (by decide) (fun c => q_me_4 N n w nl c h)
theorem q_me_6 (N n : Nat) (w : Int64) (nl c : Int32) (h : z_H) : f_Mod_measure_6 N (n + 7) w nl c 40 h = some (if q_okc w nl 6 = 1 then c + q_cn w 6 else -1, h) := by
  have eb : (Int64.toInt32 (w >>> (Int32.toInt64 40 &&& 63))) &&& 255 = q_by w 2 := rfl
  rw [f_Mod_measure_6, if_neg (by decide), eb, q_cn_6, q_okc_6]
  exact q_meF (F := f_Mod_measure_6 N (n + 6)) (k := 40) (k1 := 32) (by decide) (fun c => q_me_5 N n w nl c h)
theorem q_me_7 (N n : Nat) (w : Int64) (nl c : Int32) (h : z_H) : f_Mod_measure_6 N (n + 8) w nl c 48 h = some (if q_okc w nl 7 = 1 then c + q_cn w 7 else -1, h) := by
  have eb : (Int64.toInt32 (w >>> (Int32.toInt64 48 &&& 63))) &&& 255 = q_by w 1 := rfl
  rw [f_Mod_measure_6, if_neg (by decide), eb, q_cn_7, q_okc_7]
  exact q_meF (F := f_Mod_measure_6 N (n + 7)) (k := 48) (k1 := 40) (by decide) (fun c => q_me_6 N n w nl c h)
theorem q_me_8 (N n : Nat) (w : Int64) (nl c : Int32) (h : z_H) : f_Mod_measure_6 N (n + 9) w nl c 56 h = some (if q_okc w nl 8 = 1 then c + q_cn w 8 else -1, h) := by
  have eb : (Int64.toInt32 (w >>> (Int32.toInt64 56 &&& 63))) &&& 255 = q_by w 0 := rfl
  rw [f_Mod_measure_6, if_neg (by decide), eb, q_cn_8, q_okc_8]
  exact q_meF (F := f_Mod_measure_6 N (n + 8)) (k := 56) (k1 := 48) (by decide) (fun c => q_me_7 N n w nl c h)
theorem q_measure {N : Nat} (hN : 100000 ≤ N) (w : Int64) (nl : Int32) (h : z_H) : f_Mod_measure N w nl h = some (if q_okc w nl 8 = 1 then q_cn w 8 else -1, h) := by
  obtain ⟨n, rfl⟩ : ∃ n, N = n + 9 := ⟨N - 9, by omega⟩
  have e := q_me_8 (n + 9) n w nl 0 h
  rw [Int32.zero_add] at e; exact e
