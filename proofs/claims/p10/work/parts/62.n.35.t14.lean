/-! a run, as a function -/
abbrev x_O (E : x_TT) : List Int32 := E.2.1
abbrev x_S8 (E : x_TT) : List Int32 := E.2.2.1
abbrev x_H8 (E : x_TT) : List Int32 := E.2.2.2.1
abbrev x_A8 (E : x_TT) : List Int32 := E.2.2.2.2.1
abbrev x_rd (E : x_TT) : Int32 := E.2.2.2.2.2.1
abbrev x_cy (E : x_TT) : Int32 := E.2.2.2.2.2.2.1
abbrev x_rp (E : x_TT) : Int32 := E.2.2.2.2.2.2.2.1
abbrev x_sm (E : x_TT) : Int32 := E.2.2.2.2.2.2.2.2.1
abbrev x_nx (E : x_TT) : Int32 := E.2.2.2.2.2.2.2.2.2.1
abbrev x_ov (E : x_TT) : Int32 := E.2.2.2.2.2.2.2.2.2.2
section RUN
variable (sz lc : Int32) (LN : Int32 → List Int32) (kd tg pr na inv : Int32 → Int32) (X : Int32 → List Int32) (ym : Int32 → Int32 → Int32) (sw : Int32 → List Int32 → Int32 × List Int32) (f1 f2 : Int32 → List Int32 → Int32 → Int32) (rc : Int32 → Int32 → Int32)
/-- whether the command at nx is done -/
def x_DD (E : x_TT) (act : Int32 → Int32) : Int32 × Int32 × Int32 := x_dne (na (x_nx E)) (inv (x_nx E)) (act (x_nx E)) (f1 (x_nx E) (x_S8 E) (x_rd E)) (f2 (x_nx E) (x_S8 E) (x_rd E)) (rc (x_nx E) (x_rd E))
def x_sk (E : x_TT) : x_TT := (1, x_O E, x_S8 E, x_H8 E, x_A8 E, x_rd E, x_cy E, x_rp E, x_sm E, if kd (x_nx E) = 123 then tg (x_nx E) else x_nx E + 1, 0)
noncomputable def x_do (b : Int32) (E : x_TT) : x_TT := x_pf (kd (x_nx E)) (tg (x_nx E)) b (pr (x_nx E)) (X (x_nx E)) (ym (x_nx E)) (sw (x_nx E)) lc LN (x_O E) (x_S8 E) (x_H8 E) (x_A8 E) (x_rd E) (x_cy E) (x_rp E) (x_sm E) (x_nx E + 1)
def x_en (E : x_TT) : x_TT := x_rE (x_ec 1 lc LN (x_O E) (x_S8 E) (x_A8 E) (x_rd E)) (x_H8 E) (x_A8 E) (x_rd E) (x_cy E) (x_rp E) (x_sm E) (x_nx E)
/-- how a run ends (0: over, 2: full, 3: too many), the state, commands begun -/
noncomputable def x_run : Nat → x_TT → Int32 → (Int32 → Int32) → Option (Int32 × x_TT × Int32)
  | 0, _, _, _ => none
  | m + 1, E, bg, act =>
    if E.1 = 0 then some (2, E, bg)
    else if ¬ x_ov E = 0 then some (0, E, bg)
    else if sz ≤ x_nx E then x_run m (x_en lc LN E) bg act
    else if bg = 200 then some (3, E, bg)
    else if x_nx E < 0 then none
    else if (x_DD na inv f1 f2 rc E act).1 = 0 then x_run m (x_sk kd tg E) (bg + 1) (x_up act (x_nx E) (x_DD na inv f1 f2 rc E act).2.1)
    else x_run m (x_do lc LN kd tg pr X ym sw (x_DD na inv f1 f2 rc E act).2.2 E) (bg + 1) (x_up act (x_nx E) (x_DD na inv f1 f2 rc E act).2.1)
end RUN
/-- lines read go on by one, if there is one -/
def x_rk (rd lc : Int32) (E : x_TT) : Prop := x_rd E = rd ∨ (x_rd E = rd + 1 ∧ ¬ rd = lc)
theorem x_rk_i {rd lc : Int32} {c : Prop} [Decidable c] {a b : x_TT} (ha : c → x_rk rd lc a) (hb : ¬ c → x_rk rd lc b) : x_rk rd lc (if c then a else b) := by
  by_cases z : c
  · rw [if_pos z]; exact ha z
  · rw [if_neg z]; exact hb z
section RK
variable {lc : Int32} {LN : Int32 → List Int32} {O S H A X : List Int32} {rd cy rp sm nx b pr : Int32}
theorem x_ec_1 {sh : Int32} : (x_ec sh lc LN O S A rd).1 = 0 ∨ (x_ec sh lc LN O S A rd).1 = 2 ∨ ((x_ec sh lc LN O S A rd).1 = 1 ∧ ¬ rd = lc) := by
  have E2 : ∀ O, (x_e2 lc LN O S A rd).1 = 0 ∨ (x_e2 lc LN O S A rd).1 = 2 ∨ ((x_e2 lc LN O S A rd).1 = 1 ∧ ¬ rd = lc) := by
    intro O
    unfold x_e2
    by_cases c1 : (x_ta O [] A).2 = 0
    · rw [if_pos c1]; exact Or.inl rfl
    · rw [if_neg c1]
      by_cases c2 : rd = lc
      · rw [if_pos c2]; exact Or.inr (Or.inl rfl)
      · rw [if_neg c2]; exact Or.inr (Or.inr ⟨rfl, c2⟩)
  unfold x_ec
  by_cases c1 : sh = 0
  · rw [if_pos c1]; exact E2 O
  · rw [if_neg c1]
    by_cases c2 : O.length + S.length + 1 ≤ 600
    · rw [if_pos c2]; exact E2 _
    · rw [if_neg c2]; exact Or.inl rfl
theorem x_rk_e {sh : Int32} : x_rk rd lc (x_rE (x_ec sh lc LN O S A rd) H X rd cy rp sm nx) := by
  unfold x_rE
  refine x_rk_i (fun _ => Or.inl rfl) (fun z => x_rk_i (fun _ => Or.inl rfl) (fun w => Or.inr ⟨rfl, ?_⟩))
  rcases x_ec_1 (sh := sh) (lc := lc) (LN := LN) (O := O) (S := S) (A := A) (rd := rd) with q | q | q
  · exact absurd q z
  · exact absurd q w
  · exact q.2
theorem x_rk_q : x_rk rd lc (x_qE O S H A rd cy rp sm nx) := by
  unfold x_qE
  exact x_rk_i (fun _ => Or.inl rfl) (fun _ => Or.inl rfl)
theorem x_rk_p {kd tg : Int32} {ym : Int32 → Int32} {sw : List Int32 → Int32 × List Int32} : x_rk rd lc (x_pf kd tg b pr X ym sw lc LN O S H A rd cy rp sm nx) := by
  have TE : ∀ X, x_rk rd lc (x_tE X O S H A rd cy rp sm nx) := fun X => by
    unfold x_tE
    exact x_rk_i (fun _ => Or.inl rfl) (fun _ => Or.inl rfl)
  unfold x_pf
  refine x_rk_i (fun _ => TE _) (fun _ => x_rk_i (fun _ => ?_) (fun _ => x_rk_i (fun _ => x_rk_i (fun _ => Or.inl rfl) (fun _ => Or.inl rfl)) (fun _ => x_rk_i (fun _ => x_rk_i (fun _ => Or.inl rfl) (fun _ => Or.inl rfl)) (fun _ => x_rk_i (fun _ => ?_) (fun _ => x_rk_i (fun _ => TE _) (fun _ => x_rk_i (fun _ => ?_) (fun _ => x_rk_i (fun _ => Or.inl rfl) (fun _ => x_rk_i (fun _ => ?_) (fun _ => x_rk_i (fun _ => x_rk_e) (fun _ => x_rk_i (fun _ => Or.inl rfl) (fun _ => x_rk_i (fun _ => Or.inl rfl) (fun _ => x_rk_i (fun _ => TE _) (fun _ => x_rk_i (fun _ => ?_) (fun _ => x_rk_i (fun _ => TE _) (fun _ => x_rk_i (fun _ => x_rk_q) (fun _ => x_rk_i (fun _ => ?_) (fun _ => x_rk_i (fun _ => x_rk_i (fun _ => Or.inl rfl) (fun _ => Or.inl rfl)) (fun _ => x_rk_i (fun _ => Or.inl rfl) (fun _ => x_rk_i (fun _ => Or.inl rfl) (fun _ => Or.inl rfl))))))))))))))))))))
  · unfold x_DE
    exact x_rk_i (fun _ => x_rk_e) (fun _ => x_rk_i (fun _ => Or.inl rfl) (fun _ => Or.inl rfl))
  · unfold x_NE
    exact x_rk_i (fun _ => x_rk_q) (fun w => x_rk_i (fun _ => x_rk_i (fun _ => Or.inl rfl) (fun _ => Or.inr ⟨rfl, w⟩)) (fun _ => Or.inl rfl))
  · unfold x_aE
    exact x_rk_i (fun _ => Or.inl rfl) (fun _ => Or.inl rfl)
  · unfold x_cE
    exact x_rk_i (fun _ => x_rk_e) (fun _ => x_rk_i (fun _ => x_rk_e) (fun _ => Or.inl rfl))
  · unfold x_nE
    exact x_rk_i (fun _ => x_rk_q) (fun w => x_rk_i (fun _ => x_rk_i (fun _ => Or.inl rfl) (fun _ => Or.inr ⟨rfl, w⟩)) (fun _ => Or.inl rfl))
  · unfold x_sE
    exact x_rk_i (fun _ => Or.inl rfl) (fun _ => x_rk_i (fun _ => x_rk_i (fun _ => Or.inl rfl) (fun _ => x_rk_i (fun _ => Or.inl rfl) (fun _ => Or.inl rfl))) (fun _ => Or.inl rfl))
end RK
/-- a command's place -/
def y_cm (pg : Nat) (k : Int32) : Nat := pg + (9 + 6 * k.toNatClampNeg)
/-- a program stands as it did, but for what is in range -/
def y_K0 (e pg : Nat) (h0 h : z_H) : Prop := (∀ a, ¬ (e ≤ a ∧ a < e + 16) → (∀ i : Nat, i < 40 → a ≠ pg + (9 + 6 * i)) → h a = h0 a) ∧ ∀ i : Nat, i < 40 → ∀ k, k ≠ 15 → vI h (pg + (9 + 6 * i)) k = vI h0 (pg + (9 + 6 * i)) k
theorem y_K0_F {e pg : Nat} {h0 h h1 : z_H} (hpg : e + 16 ≤ pg) (K : y_K0 e pg h0 h) (F : y_F e h h1) : y_K0 e pg h0 h1 := ⟨fun a a1 a2 => (F a a1).trans (K.1 a a1 a2), fun i hi k hk => by rw [x_vI_c (F _ (by omega)), K.2 i hi k hk]⟩
theorem y_K0_D {e pg j : Nat} {h0 h h1 : z_H} (hpg : e + 16 ≤ pg) (hj : j < 40) (K : y_K0 e pg h0 h) (F : ∀ a, ¬ (e ≤ a ∧ a < e + 16) → a ≠ pg + (9 + 6 * j) → h1 a = h a) (C : ∀ k, k ≠ 15 → vI h1 (pg + (9 + 6 * j)) k = vI h (pg + (9 + 6 * j)) k) : y_K0 e pg h0 h1 := by
  refine ⟨fun a a1 a2 => (F a a1 (a2 j hj)).trans (K.1 a a1 a2), fun i hi k hk => ?_⟩
  by_cases z : i = j
  · subst z; rw [C k hk, K.2 i hi k hk]
  · rw [x_vI_c (F _ (by omega) (by omega)), K.2 i hi k hk]
