/-! kinds, ranges of the heap at the law's loop, told from its base -/
def k_T (j : Nat) : Nat := if j < 30 then ([12, 11, 240101, 12304, 7, 3, 9, 4100, 26100, 4, 11, 600101, 11, 60101, 11, 60101, 11, 200101, 6, 4100, 4100, 4100, 4100, 11, 60101, 6, 4100, 4100, 4100, 4100][j]?).getD 0 else if j < 528 then (if (j - 30) % 249 < 9 then ([10, 11, 240101, 5, 240100, 240100, 240200, 240200, 40305][(j - 30) % 249]?).getD 0 else ([2, 1, 8, 1, 8, 8][((j - 30) % 249 - 9) % 6]?).getD 0) else if j < 552 then (if j % 2 = 0 then 11 else 24101) else if j < 599 then ([13, 240100, 12100, 288100, 80100, 80100, 80100, 80100, 80100, 80100, 80100, 80100, 80100, 80100, 80100, 80100, 80103, 80103, 80103, 2100, 2100, 2100, 2100, 260100, 260100, 260100, 520100, 520100, 600100, 520103, 260103, 260103, 520200, 520200, 26100, 5100, 64100, 4100, 4100, 64100, 64100, 400100, 200100, 600100, 40100, 40103, 1200][j - 552]?).getD 0 else 0
def k_full : Int32 × Int32 := ((-2147483648), 2147483647)
def k_R (j k : Nat) : Int32 × Int32 := if k_T j = 11 then (if k = 1 then (0, Int32.ofNat (k_T (j + 1) / 1000)) else k_full) else if k_T j = 1 then (if k = 1 then (0, 2) else k_full) else if k_T j = 2 then (if k = 4 then (0, 242) else if k = 5 then (0, 2) else if k = 7 then ((-1), 40) else if k = 8 then ((-1), 25) else if k = 9 then (0, 242) else if k = 10 then (0, 242) else if k = 11 then (0, 243) else k_full) else if k_T j = 3 then (if k = 1 then (0, 242) else k_full) else if k_T j = 4 then (if k = 3 then (0, 12) else if k = 4 then (0, 200) else if k = 12 then (0, 12) else if k = 13 then (0, 40) else k_full) else if k_T j = 5 then (if k = 4 then (0, 240) else k_full) else if k_T j = 6 then (if k = 0 then (0, 600) else if k = 1 then ((-1), 600) else k_full) else if k_T j = 7 then (if k = 4 then (0, 4) else k_full) else if k_T j = 8 then (if k = 2 then (0, 240) else if k = 3 then (0, 240) else if k = 4 then ((-1), 240) else if k = 5 then ((-1), 240) else if k = 6 then (0, 3) else k_full) else if k_T j = 9 then (if k = 4 then (0, 2) else k_full) else if k_T j = 10 then (if k = 3 then (0, 40) else k_full) else if k_T j = 12 then (if k = 5 then (0, 12) else k_full) else if k_T j = 13 then (if k = 3 then (0, 240) else if k = 4 then (0, 12) else if k = 7 then (0, 1) else if k = 41 then (0, 250) else if k = 42 then (0, 1) else if k = 43 then (0, 4) else if k = 44 then (0, 3) else if k = 47 then (0, 259) else if k = 54 then (0, 60) else if k = 56 then (0, 60) else if k = 57 then ((-1), 60) else if k = 65 then (0, 60) else if k = 66 then (0, 60) else if k = 67 then (0, 400) else if k = 68 then (0, 200) else if k = 69 then (0, 600) else if k = 70 then (0, 12) else if k = 71 then (0, 200) else k_full) else k_full
def k_E (j : Nat) : Int32 × Int32 := if 552 < j then (if j = 590 then ((-1), 60) else if j = 589 then ((-1), 60) else if j = 587 then (0, 79) else if j = 586 then ((-1), 79) else if j = 580 then ((-1), 203) else if j = 578 then (0, 5) else if j = 577 then (0, 3) else if j = 576 then (0, 520) else if j = 575 then (0, 520) else if j = 574 then (0, 299) else if j = 573 then (0, 259) else if j = 572 then (0, 130) else if j = 571 then (0, 40) else if j = 565 then ((-1), 40) else if j = 564 then (0, 600) else if j = 563 then (0, 600) else if j = 562 then (0, 600) else if j = 561 then (0, 259) else if j = 560 then (0, 259) else if j = 559 then (0, 3) else if j = 558 then (0, 259) else if j = 557 then (0, 3) else if j = 554 then (0, 24) else if j = 553 then (0, 126) else k_full) else if k_T (j - 1) = 11 then (0, 65535) else if k_T (j - 2) = 5 then (0, 3) else if k_T (j - 1) = 6 ∨ k_T (j - 2) = 6 ∨ k_T (j - 3) = 6 ∨ k_T (j - 4) = 6 then (0, 600) else if k_T (j - 3) = 7 then (0, 39) else if k_T (j - 4) = 7 then ((-1), 40) else k_full
def c_g0 : Nat → c_C := fun _ => .inl (99, [])
def c_F : Nat → c_C := c_s (r_Mod 552 (c_s (r_SF 0 (c_s c_g0 0 (.inl (11, [.inr none, .inr none, .inr none, .inr none, .inr none, .inl 0, .inr none, .inr none, .inl 0, .inl 0])))) 552 (.inl (12, [.inr none, .inr none, .inr none, .inl 0, .inl 0, .inl 0, .inl 0, .inl 0, .inl 0, .inr none, .inr none, .inr none, .inr none, .inr none, .inr none, .inr none, .inr none, .inr none, .inr none, .inr none, .inr none, .inr none, .inr none, .inr none, .inr none, .inr none, .inr none, .inr none, .inr none, .inr none, .inr none, .inr none, .inr none, .inr none, .inr none, .inr none, .inr none, .inr none, .inr none, .inr none, .inr none, .inl 0, .inl 0, .inl 0, .inl 0, .inl 0, .inl 0, .inl 0, .inl 0, .inl 0, .inl 0, .inr none, .inr none, .inr none, .inl 0, .inl 0, .inl 0, .inl 0, .inr none, .inr none, .inr none, .inr none, .inr none, .inr none, .inr none, .inl 0, .inl 0, .inl 0, .inl 0, .inl 0, .inl 0, .inl 0, .inl 0, .inl 0, .inl 0, .inl 0, .inl 0])))) 598 (.inr (2, 1, 1, c_0))
def c_tg : c_V → Nat
  | .inl _ => 0
  | .inr _ => 1
def c_kd (c : c_C) : Nat := match c with
  | .inl (ci, fs) => if fs.map c_tg = q_tb ci ∧ ci < 13 then ci + 1 else 99
  | .inr (t, n, 0, _) => if t < 6 then n * 1000 + 100 + t else 99
  | .inr (t, n, 1, _) => if t = 2 then n * 1000 + 200 else 99
  | .inr (t, n, _ + 2, _) => if t < 6 then n * 1000 + 300 + t else 99
def c_pt (c : c_C) (k : Nat) : Option Nat := match c with
  | .inl (_, fs) => (match fs[k]? with
    | some (.inr (some o)) => some o
    | _ => none)
  | _ => none
def c_it (c : c_C) (k : Nat) : Int32 := match c with
  | .inl (_, fs) => (match fs[k]? with
    | some (.inl x) => x
    | _ => 0)
  | _ => 0
def c_rq (c : c_C) (i : Nat) : Option Nat := match c with
  | .inr (_, _, _ + 2, f) => f i
  | _ => none
/-- all its ints are 0 -/
def c_z (c : c_C) : Bool := match c with
  | .inl (_, fs) => fs.all (fun v => match v with
    | .inl x => x == 0
    | _ => true)
  | _ => true
section CF
variable {B m j k : Nat} {g : Nat → c_C} {a : Nat} {i : Int32}
theorem c_tgv (B : Nat) (v : c_V) : q_tg (c_v B v) = c_tg v := by
  rcases v with x | _ | x <;> rfl
theorem c_kd_at (hj : j < m) : q_kd (c_h B m g) (B + j) = c_kd (g j) := by
  unfold q_kd
  rw [c_h_at rfl hj]
  rcases g j with ⟨ci, fs⟩ | ⟨t, n, c, f⟩
  · dsimp only [c_e, c_kd]
    rw [List.map_map, show q_tg ∘ c_v B = c_tg from funext (c_tgv B)]
  · rcases c with _ | _ | c <;> rfl
theorem c_no (h : ¬ (B ≤ a ∧ a < B + m)) : c_h B m g a = none := if_neg h
theorem c_pt_at (hj : j < m) : vR (c_h B m g) (B + j) k = (c_pt (g j) k).map (B + ·) := by
  unfold vR
  rw [c_h_at rfl hj]
  rcases g j with ⟨ci, fs⟩ | ⟨t, n, c, f⟩
  · dsimp only [c_e, c_pt]
    rw [List.getElem?_map]
    rcases fs[k]? with _ | x | _ | x <;> rfl
  · rcases c with _ | _ | c <;> rfl
theorem c_it_at (hj : j < m) : vI (c_h B m g) (B + j) k = c_it (g j) k := by
  unfold vI
  rw [c_h_at rfl hj]
  rcases g j with ⟨ci, fs⟩ | ⟨t, n, c, f⟩
  · dsimp only [c_e, c_it]
    rw [List.getElem?_map]
    rcases fs[k]? with _ | x | _ | x <;> rfl
  · rcases c with _ | _ | c <;> rfl
theorem c_rq_at (hj : j < m) : vQ (c_h B m g) (B + j) i = (c_rq (g j) i.toNatClampNeg).map (B + ·) := by
  unfold vQ
  rw [c_h_at rfl hj]
  rcases g j with ⟨ci, fs⟩ | ⟨t, n, c, f⟩
  · rfl
  · rcases c with _ | _ | c <;> rfl
theorem c_vA : vA (c_h B m g) a i = 0 := by
  by_cases h : B ≤ a ∧ a < B + m
  · obtain ⟨j, rfl⟩ : ∃ j, a = B + j := ⟨a - B, by omega⟩
    unfold vA
    rw [c_h_at rfl (show j < m by omega)]
    rcases g j with ⟨ci, fs⟩ | ⟨t, n, c, f⟩
    · rfl
    · rcases c with _ | _ | c <;> rfl
  · unfold vA; rw [c_no h]
theorem c_z_it {c : c_C} (h : c_z c = true) : c_it c k = 0 := by
  rcases c with ⟨ci, fs⟩ | ⟨t, n, c, f⟩
  · dsimp only [c_z, c_it] at *
    rw [List.all_eq_true] at h
    cases e : fs[k]? with
    | none => rfl
    | some v =>
      have q := h v (List.mem_of_getElem? e)
      rcases v with x | _ | x
      · exact eq_of_beq q
      · rfl
      · rfl
  · rfl
end CF
