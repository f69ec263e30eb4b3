/-! kinds, ranges of the heap at the law's loop, told from its base -/
def k_T (j : Nat) : Nat := if j < 30 then ([12, 11, 240101, 12304, 7, 3, 9, 4100, 26100, 4, 11, 600101, 11, 60101, 11, 60101, 11, 200101, 6, 4100, 4100, 4100, 4100, 11, 60101, 6, 4100, 4100, 4100, 4100][j]?).getD 0 else if j < 528 then (if (j - 30) % 249 < 9 then ([10, 11, 240101, 5, 240100, 240100, 240200, 240200, 40305][(j - 30) % 249]?).getD 0 else ([2, 1, 8, 1, 8, 8][((j - 30) % 249 - 9) % 6]?).getD 0) else if j < 552 then (if j % 2 = 0 then 11 else 24101) else if j < 599 then ([13, 240100, 12100, 288100, 80100, 80100, 80100, 80100, 80100, 80100, 80100, 80100, 80100, 80100, 80100, 80100, 80103, 80103, 80103, 2100, 2100, 2100, 2100, 260100, 260100, 260100, 520100, 520100, 600100, 520103, 260103, 260103, 520200, 520200, 26100, 5100, 64100, 4100, 4100, 64100, 64100, 400100, 200100, 600100, 40100, 40103, 1200][j - 552]?).getD 0 else 0
def k_full : Int32 × Int32 := ((-2147483648), 2147483647)
def k_R (j k : Nat) : Int32 × Int32 := if k_T j = 11 then (if k = 1 then (0, Int32.ofNat (k_T (j + 1) / 1000)) else k_full) else if k_T j = 1 then (if k = 1 then (0, 2) else k_full) else if k_T j = 2 then (if k = 4 then (0, 242) else if k = 5 then (0, 2) else if k = 7 then ((-1), 40) else if k = 8 then ((-1), 25) else if k = 9 then (0, 242) else if k = 10 then (0, 242) else if k = 11 then (0, 243) else k_full) else if k_T j = 3 then (if k = 1 then (0, 242) else k_full) else if k_T j = 4 then (if k = 3 then (0, 12) else if k = 4 then (0, 200) else if k = 12 then (0, 12) else if k = 13 then (0, 40) else k_full) else if k_T j = 5 then (if k = 4 then (0, 240) else k_full) else if k_T j = 6 then (if k = 0 then (0, 600) else if k = 1 then ((-1), 600) else k_full) else if k_T j = 7 then (if k = 4 then (0, 4) else k_full) else if k_T j = 8 then (if k = 2 then (0, 240) else if k = 3 then (0, 240) else if k = 4 then ((-1), 240) else if k = 5 then ((-1), 240) else if k = 6 then (0, 3) else k_full) else if k_T j = 9 then (if k = 4 then (0, 2) else k_full) else if k_T j = 10 then (if k = 3 then (0, 40) else k_full) else if k_T j = 12 then (if k = 5 then (0, 12) else k_full) else if k_T j = 13 then (if k = 3 then (0, 240) else if k = 4 then (0, 12) else if k = 7 then (0, 1) else if k = 41 then (0, 250) else if k = 42 then (0, 1) else if k = 43 then (0, 4) else if k = 44 then (0, 3) else if k = 47 then (0, 259) else if k = 54 then (0, 60) else if k = 56 then (0, 60) else if k = 57 then ((-1), 60) else if k = 65 then (0, 60) else if k = 66 then (0, 60) else if k = 67 then (0, 400) else if k = 68 then (0, 200) else if k = 69 then (0, 600) else if k = 70 then (0, 12) else if k = 71 then (0, 200) else k_full) else k_full
def k_E (j : Nat) : Int32 × Int32 := if 552 < j then (if j = 590 then ((-1), 60) else if j = 589 then ((-1), 60) else if j = 587 then (0, 79) else if j = 586 then ((-1), 79) else if j = 580 then ((-1), 203) else if j = 578 then (0, 5) else if j = 577 then (0, 3) else if j = 576 then (0, 520) else if j = 575 then (0, 520) else if j = 574 then (0, 299) else if j = 573 then (0, 259) else if j = 572 then (0, 130) else if j = 571 then (0, 40) else if j = 565 then ((-1), 40) else if j = 564 then (0, 600) else if j = 563 then (0, 600) else if j = 562 then (0, 600) else if j = 561 then (0, 259) else if j = 560 then (0, 259) else if j = 559 then (0, 3) else if j = 558 then (0, 259) else if j = 557 then (0, 3) else if j = 554 then (0, 24) else if j = 553 then (0, 126) else k_full) else if k_T (j - 1) = 11 then (0, 65535) else if k_T (j - 2) = 5 then (0, 3) else if k_T (j - 1) = 6 ∨ k_T (j - 2) = 6 ∨ k_T (j - 3) = 6 ∨ k_T (j - 4) = 6 then (0, 600) else if k_T (j - 3) = 7 then (0, 39) else if k_T (j - 4) = 7 then ((-1), 40) else k_full
def c_g0 : Nat → c_C := fun _ => .inl (99, [])
def c_F : Nat → c_C := c_s (r_Mod 552 (c_s (r_SF 0 (c_s c_g0 0 (.inl (11, [.inr none, .inr none, .inr none, .inr none, .inr none, .inl 0, .inr none, .inr none, .inl 0, .inl 0])))) 552 (.inl (12, [.inr none, .inr none, .inr none, .inl 0, .inl 0, .inl 0, .inl 0, .inl 0, .inl 0, .inr none, .inr none, .inr none, .inr none, .inr none, .inr none, .inr none, .inr none, .inr none, .inr none, .inr none, .inr none, .inr none, .inr none, .inr none, .inr none, .inr none, .inr none, .inr none, .inr none, .inr none, .inr none, .inr none, .inr none, .inr none, .inr none, .inr none, .inr none, .inr none, .inr none, .inr none, .inr none, .inl 0, .inl 0, .inl 0, .inl 0, .inl 0, .inl 0, .inl 0, .inl 0, .inl 0, .inl 0, .inr none, .inr none, .inr none, .inl 0, .inl 0, .inl 0, .inl 0, .inr none, .inr none, .inr none, .inr none, .inr none, .inr none, .inr none, .inl 0, .inl 0, .inl 0, .inl 0, .inl 0, .inl 0, .inl 0, .inl 0, .inl 0, .inl 0, .inl 0, .inl 0])))) 598 (.inr (2, 1, 1, c_0))
def c_tg : c_V → Nat
  | .inl _ => 0
  | .inr _ => 1
def c_kd (c : c_C) : Nat := match c with
  | .inl (ci, fs) => if fs.map c_tg = q_tb ci ∧ ci < 13 then ci + 1 else 99
  | .inr (t, n, 0, _) => if t < 6 then n * 1000 + 100 + t else 99
  | .inr (t, n, 1, _) => if t = 2 then n * 1000 + 200 else 99
  | .inr (t, n, _ + 2, _) => if t < 6 then n * 1000 + 300 + t else 99
def c_pt (c : c_C) (k : Nat) : Option Nat := match c with
  | .inl (_, fs) => (match fs[k]? with
    | some (.inr (some o)) => some o
    | _ => none)
  | _ => none
def c_it (c : c_C) (k : Nat) : Int32 := match c with
  | .inl (_, fs) => (match fs[k]? with
    | some (.inl x) => x
    | _ => 0)
  | _ => 0
def c_rq (c : c_C) (i : Nat) : Option Nat := match c with
  | .inr (_, _, _ + 2, f) => f i
  | _ => none
/-- all its ints are 0 -/
def c_z (c : c_C) : Bool := match c with
  | .inl (_, fs) => fs.all (fun v => match v with
    | .inl x => x == 0
    | _ => true)
  | _ => true
section CF
variable {B m j k : Nat} {g : Nat → c_C} {a : Nat} {i : Int32}
theorem c_tgv (B : Nat) (v : c_V) : q_tg (c_v B v) = c_tg v := by
  rcases v with x | _ | x <;> rfl
theorem c_kd_at (hj : j < m) : q_kd (c_h B m g) (B + j) = c_kd (g j) := by
  unfold q_kd
  rw [c_h_at rfl hj]
  rcases g j with ⟨ci, fs⟩ | ⟨t, n, c, f⟩
  · dsimp only [c_e, c_kd]
    rw [List.map_map, show q_tg ∘ c_v B = c_tg from funext (c_tgv B)]
  · rcases c with _ | _ | c <;> rfl
theorem c_no (h : ¬ (B ≤ a ∧ a < B + m)) : c_h B m g a = none := if_neg h
theorem c_pt_at (hj : j < m) : vR (c_h B m g) (B + j) k = (c_pt (g j) k).map (B + ·) := by
  unfold vR
  rw [c_h_at rfl hj]
  rcases g j with ⟨ci, fs⟩ | ⟨t, n, c, f⟩
  · dsimp only [c_e, c_pt]
    rw [List.getElem?_map]
    rcases fs[k]? with _ | x | _ | x <;> rfl
  · rcases c with _ | _ | c <;> rfl
theorem c_it_at (hj : j < m) : vI (c_h B m g) (B + j) k = c_it (g j) k := by
  unfold vI
  rw [c_h_at rfl hj]
  rcases g j with ⟨ci, fs⟩ | ⟨t, n, c, f⟩
  · dsimp only [c_e, c_it]
    rw [List.getElem?_map]
    rcases fs[k]? with _ | x | _ | x <;> rfl
  · rcases c with _ | _ | c <;> rfl
theorem c_rq_at (hj : j < m) : vQ (c_h B m g) (B + j) i = (c_rq (g j) i.toNatClampNeg).map (B + ·) := by
  unfold vQ
  rw [c_h_at rfl hj]
  rcases g j with ⟨ci, fs⟩ | ⟨t, n, c, f⟩
  · rfl
  · rcases c with _ | _ | c <;> rfl
theorem c_vA : vA (c_h B m g) a i = 0 := by
  by_cases h : B ≤ a ∧ a < B + m
  · obtain ⟨j, rfl⟩ : ∃ j, a = B + j := ⟨a - B, by omega⟩
    unfold vA
    rw [c_h_at rfl (show j < m by omega)]
    rcases g j with ⟨ci, fs⟩ | ⟨t, n, c, f⟩
    · rfl
    · rcases c with _ | _ | c <;> rfl
  · unfold vA; rw [c_no h]
theorem c_z_it {c : c_C} (h : c_z c = true) : c_it c k = 0 := by
  rcases c with ⟨ci, fs⟩ | ⟨t, n, c, f⟩
  · dsimp only [c_z, c_it] at *
    rw [List.all_eq_true] at h
    cases e : fs[k]? with
    | none => rfl
    | some v =>
      have q := h v (List.mem_of_getElem? e)
      rcases v with x | _ | x
      · exact eq_of_beq q
      · rfl
      · rfl
  · rfl
end CF
set_option maxRecDepth 100000 in
set_option maxHeartbeats 8000000 in
theorem k_kd : ∀ j < 599, c_kd (c_F j) = k_T j := by decide +kernel
set_option maxRecDepth 100000 in
set_option maxHeartbeats 8000000 in
theorem k_z : ∀ j < 599, j = 0 ∨ j = 552 ∨ c_z (c_F j) = true := by decide +kernel
set_option maxRecDepth 100000 in
set_option maxHeartbeats 8000000 in
theorem k_FAddr : ∀ j < 599, k_T j = 1 → c_pt (c_F j) 0 = some (j + 1) := by decide +kernel
set_option maxRecDepth 100000 in
set_option maxHeartbeats 8000000 in
theorem k_FCmd : ∀ j < 599, k_T j = 2 → c_pt (c_F j) 0 = some (j + 1) ∧ c_pt (c_F j) 1 = some (j + 3) ∧ c_pt (c_F j) 2 = some (j + 5) := by decide +kernel
set_option maxRecDepth 100000 in
set_option maxHeartbeats 8000000 in
theorem k_FEd : ∀ j < 599, k_T j = 4 → c_pt (c_F j) 0 = some (j + 1) ∧ c_pt (c_F j) 7 = some (j + 7) ∧ c_pt (c_F j) 8 = some (j + 9) := by decide +kernel
set_option maxRecDepth 100000 in
set_option maxHeartbeats 8000000 in
theorem k_FIt : ∀ j < 599, k_T j = 5 → c_pt (c_F j) 0 = some (j + 1) ∧ c_pt (c_F j) 1 = some (j + 2) ∧ c_pt (c_F j) 2 = some (j + 3) ∧ c_pt (c_F j) 3 = some (j + 4) := by decide +kernel
set_option maxRecDepth 100000 in
set_option maxHeartbeats 8000000 in
theorem k_FMa : ∀ j < 599, k_T j = 6 → c_pt (c_F j) 5 = some (j + 1) ∧ c_pt (c_F j) 6 = some (j + 2) ∧ c_pt (c_F j) 7 = some (j + 3) ∧ c_pt (c_F j) 8 = some (j + 4) := by decide +kernel
set_option maxRecDepth 100000 in
set_option maxHeartbeats 8000000 in
theorem k_FPa : ∀ j < 599, k_T j = 7 → c_pt (c_F j) 0 = some (j + 1) ∧ c_pt (c_F j) 1 = some (j + 2) ∧ c_pt (c_F j) 2 = some (j + 3) ∧ c_pt (c_F j) 3 = some (j + 4) := by decide +kernel
set_option maxRecDepth 100000 in
set_option maxHeartbeats 8000000 in
theorem k_FProg : ∀ j < 599, k_T j = 10 → c_pt (c_F j) 0 = some (j + 1) ∧ c_pt (c_F j) 1 = some (j + 3) ∧ c_pt (c_F j) 2 = some (j + 8) := by decide +kernel
set_option maxRecDepth 100000 in
set_option maxHeartbeats 8000000 in
theorem k_FSF : ∀ j < 599, k_T j = 12 → c_pt (c_F j) 0 = some (j + 1) ∧ c_pt (c_F j) 1 = some (j + 3) ∧ c_pt (c_F j) 2 = some (j + 4) ∧ c_pt (c_F j) 3 = some (j + 9) ∧ c_pt (c_F j) 4 = some (j + 25) := by decide +kernel
set_option maxRecDepth 100000 in
set_option maxHeartbeats 8000000 in
theorem k_FRow : ∀ j < 599, k_T j = 11 → c_pt (c_F j) 0 = some (j + 1) := by decide +kernel
set_option maxRecDepth 100000 in
set_option maxHeartbeats 8000000 in
theorem k_CAddr : ∀ j < 599, k_T j = 1 → k_T (j + 1) = 8 ∧ ((k_R j 1).1 = 0 ∧ (k_R j 1).2 = 2) ∧ ((k_R j 2).1 = (-2147483648) ∧ (k_R j 2).2 = 2147483647) := by decide +kernel
set_option maxRecDepth 100000 in
set_option maxHeartbeats 8000000 in
theorem k_CCmd : ∀ j < 599, k_T j = 2 → k_T (j + 1) = 1 ∧ k_T (j + 3) = 1 ∧ k_T (j + 5) = 8 ∧ ((k_R j 3).1 = (-2147483648) ∧ (k_R j 3).2 = 2147483647) ∧ ((k_R j 4).1 = 0 ∧ (k_R j 4).2 = 242) ∧ ((k_R j 5).1 = 0 ∧ (k_R j 5).2 = 2) ∧ ((k_R j 6).1 = (-2147483648) ∧ (k_R j 6).2 = 2147483647) ∧ ((k_R j 7).1 = (-1) ∧ (k_R j 7).2 = 40) ∧ ((k_R j 8).1 = (-1) ∧ (k_R j 8).2 = 25) ∧ ((k_R j 9).1 = 0 ∧ (k_R j 9).2 = 242) ∧ ((k_R j 10).1 = 0 ∧ (k_R j 10).2 = 242) ∧ ((k_R j 11).1 = 0 ∧ (k_R j 11).2 = 243) ∧ ((k_R j 12).1 = (-2147483648) ∧ (k_R j 12).2 = 2147483647) ∧ ((k_R j 13).1 = (-2147483648) ∧ (k_R j 13).2 = 2147483647) ∧ ((k_R j 14).1 = (-2147483648) ∧ (k_R j 14).2 = 2147483647) ∧ ((k_R j 15).1 = (-2147483648) ∧ (k_R j 15).2 = 2147483647) := by decide +kernel
set_option maxRecDepth 100000 in
set_option maxHeartbeats 8000000 in
theorem k_CCur : ∀ j < 599, k_T j = 3 → ((k_R j 1).1 = 0 ∧ (k_R j 1).2 = 242) ∧ ((k_R j 2).1 = (-2147483648) ∧ (k_R j 2).2 = 2147483647) := by decide +kernel
set_option maxRecDepth 100000 in
set_option maxHeartbeats 8000000 in
theorem k_CEd : ∀ j < 599, k_T j = 4 → k_T (j + 1) = 11 ∧ (k_R (j + 1) 1).2 = 600 ∧ ((k_R j 3).1 = 0 ∧ (k_R j 3).2 = 12) ∧ ((k_R j 4).1 = 0 ∧ (k_R j 4).2 = 200) ∧ ((k_R j 5).1 = (-2147483648) ∧ (k_R j 5).2 = 2147483647) ∧ ((k_R j 6).1 = (-2147483648) ∧ (k_R j 6).2 = 2147483647) ∧ k_T (j + 7) = 11 ∧ (k_R (j + 7) 1).2 = 200 ∧ k_T (j + 9) = 6 ∧ ((k_R j 12).1 = 0 ∧ (k_R j 12).2 = 12) ∧ ((k_R j 13).1 = 0 ∧ (k_R j 13).2 = 40) ∧ ((k_R j 14).1 = (-2147483648) ∧ (k_R j 14).2 = 2147483647) ∧ ((k_R j 15).1 = (-2147483648) ∧ (k_R j 15).2 = 2147483647) ∧ ((k_R j 16).1 = (-2147483648) ∧ (k_R j 16).2 = 2147483647) := by decide +kernel
set_option maxRecDepth 100000 in
set_option maxHeartbeats 8000000 in
theorem k_CIt : ∀ j < 599, k_T j = 5 → ((k_R j 4).1 = 0 ∧ (k_R j 4).2 = 240) ∧ k_T (j + 1) = 240 * 1000 + 100 + 0 ∧ ((k_E (j + 1)).1 = (-2147483648) ∧ (k_E (j + 1)).2 = 2147483647) ∧ k_T (j + 2) = 240 * 1000 + 100 + 0 ∧ ((k_E (j + 2)).1 = 0 ∧ (k_E (j + 2)).2 = 3) ∧ k_T (j + 3) = 240 * 1000 + 200 ∧ k_T (j + 4) = 240 * 1000 + 200 := by decide +kernel
set_option maxRecDepth 100000 in
set_option maxHeartbeats 8000000 in
theorem k_CMa : ∀ j < 599, k_T j = 6 → ((k_R j 0).1 = 0 ∧ (k_R j 0).2 = 600) ∧ ((k_R j 1).1 = (-1) ∧ (k_R j 1).2 = 600) ∧ k_T (j + 1) = 4 * 1000 + 100 + 0 ∧ ((k_E (j + 1)).1 = 0 ∧ (k_E (j + 1)).2 = 600) ∧ k_T (j + 2) = 4 * 1000 + 100 + 0 ∧ ((k_E (j + 2)).1 = 0 ∧ (k_E (j + 2)).2 = 600) ∧ k_T (j + 3) = 4 * 1000 + 100 + 0 ∧ ((k_E (j + 3)).1 = 0 ∧ (k_E (j + 3)).2 = 600) ∧ k_T (j + 4) = 4 * 1000 + 100 + 0 ∧ ((k_E (j + 4)).1 = 0 ∧ (k_E (j + 4)).2 = 600) := by decide +kernel
set_option maxRecDepth 100000 in
set_option maxHeartbeats 8000000 in
theorem k_CPa : ∀ j < 599, k_T j = 7 → k_T (j + 1) = 3 ∧ k_T (j + 2) = 9 ∧ ((k_R j 4).1 = 0 ∧ (k_R j 4).2 = 4) ∧ k_T (j + 3) = 4 * 1000 + 100 + 0 ∧ ((k_E (j + 3)).1 = 0 ∧ (k_E (j + 3)).2 = 39) ∧ k_T (j + 4) = 26 * 1000 + 100 + 0 ∧ ((k_E (j + 4)).1 = (-1) ∧ (k_E (j + 4)).2 = 40) := by decide +kernel
set_option maxRecDepth 100000 in
set_option maxHeartbeats 8000000 in
theorem k_CPt : ∀ j < 599, k_T j = 8 → ((k_R j 0).1 = (-2147483648) ∧ (k_R j 0).2 = 2147483647) ∧ ((k_R j 1).1 = (-2147483648) ∧ (k_R j 1).2 = 2147483647) ∧ ((k_R j 2).1 = 0 ∧ (k_R j 2).2 = 240) ∧ ((k_R j 3).1 = 0 ∧ (k_R j 3).2 = 240) ∧ ((k_R j 4).1 = (-1) ∧ (k_R j 4).2 = 240) ∧ ((k_R j 5).1 = (-1) ∧ (k_R j 5).2 = 240) ∧ ((k_R j 6).1 = 0 ∧ (k_R j 6).2 = 3) := by decide +kernel
set_option maxRecDepth 100000 in
set_option maxHeartbeats 8000000 in
theorem k_CPr : ∀ j < 599, k_T j = 9 → ((k_R j 3).1 = (-2147483648) ∧ (k_R j 3).2 = 2147483647) ∧ ((k_R j 4).1 = 0 ∧ (k_R j 4).2 = 2) ∧ ((k_R j 5).1 = (-2147483648) ∧ (k_R j 5).2 = 2147483647) ∧ ((k_R j 6).1 = (-2147483648) ∧ (k_R j 6).2 = 2147483647) := by decide +kernel
set_option maxRecDepth 100000 in
set_option maxHeartbeats 8000000 in
theorem k_CProg : ∀ j < 599, k_T j = 10 → k_T (j + 1) = 11 ∧ (k_R (j + 1) 1).2 = 240 ∧ k_T (j + 3) = 5 ∧ ((k_R j 3).1 = 0 ∧ (k_R j 3).2 = 40) ∧ k_T (j + 8) = 40 * 1000 + 300 + 5 := by decide +kernel
set_option maxRecDepth 100000 in
set_option maxHeartbeats 8000000 in
theorem k_CSF : ∀ j < 599, k_T j = 12 → k_T (j + 1) = 11 ∧ (k_R (j + 1) 1).2 = 240 ∧ k_T (j + 4) = 7 ∧ k_T (j + 9) = 4 ∧ k_T (j + 25) = 6 ∧ ((k_R j 5).1 = 0 ∧ (k_R j 5).2 = 12) ∧ ((k_R j 8).1 = (-2147483648) ∧ (k_R j 8).2 = 2147483647) ∧ ((k_R j 9).1 = (-2147483648) ∧ (k_R j 9).2 = 2147483647) ∧ k_T (j + 3) = 12 * 1000 + 300 + 4 := by decide +kernel
set_option maxRecDepth 100000 in
set_option maxHeartbeats 8000000 in
theorem k_CRow : ∀ j < 599, k_T j = 11 → k_T (j + 1) = (k_T (j + 1) / 1000) * 1000 + 100 + 1 ∧ k_T (j + 1) / 1000 ≤ 600 ∧ (k_R j 1).1 = 0 ∧ (k_R j 1).2 = Int32.ofNat (k_T (j + 1) / 1000) ∧ (k_E (j + 1)).1 = 0 ∧ (k_E (j + 1)).2 = 65535 := by decide +kernel
theorem k_j12 : ∀ j < 599, k_T j = 12 → j = 0 := by decide +kernel
theorem k_j10 : ∀ j < 599, k_T j = 10 → j = 30 ∨ j = 279 := by decide +kernel
theorem k_q3 : ∀ i < 12, c_rq (c_F 3) i = some (528 + 2 * i) ∧ k_T (528 + 2 * i) = 11 ∧ (k_R (528 + 2 * i) 1).2 = 24 := by decide +kernel
theorem k_q38 : ∀ i < 40, c_rq (c_F 38) i = some (30 + (9 + 6 * i)) ∧ k_T (30 + (9 + 6 * i)) = 2 := by decide +kernel
theorem k_q287 : ∀ i < 40, c_rq (c_F 287) i = some (279 + (9 + 6 * i)) ∧ k_T (279 + (9 + 6 * i)) = 2 := by decide +kernel
theorem k_o600 {n : Nat} (h : n ≤ 600) : (0 : Int32) ≤ Int32.ofNat n := by
  refine Int32.le_iff_toInt_le.mpr ?_
  rw [q_oI (by omega)]
  have e0 : (0 : Int32).toInt = 0 := rfl
  omega
set_option maxHeartbeats 4000000 in
theorem k_R0 {j k : Nat} (hj : j < 599) : (k_R j k).1 ≤ 0 ∧ 0 ≤ (k_R j k).2 := by
  unfold k_R
  split
  · next e =>
    have d := k_CRow j hj e
    split
    · exact ⟨by decide, k_o600 d.2.1⟩
    · decide
  · repeat' split
    all_goals decide
theorem k_E0 : ∀ j < 599, (k_E j).1 ≤ 0 ∧ 0 ≤ (k_E j).2 := by decide +kernel
