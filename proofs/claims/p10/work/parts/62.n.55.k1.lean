/-! rules of the light walks, with long arrays -/
theorem x_am1 (a : Int32) : a + 1 - 1 = a := by lia
section OR
variable {L : q_L} {π : Nat → Nat → Option Nat} {h : z_H} {a c k : Nat} {β : Type} {Q : β → Prop}
theorem o_cL {h h' : z_H} {a b : Nat} (f1 : vL h a = fun _ => 0) (f2 : vL h' a = fun _ => 0) (f3 : ∀ b, b ≠ a → h' b = h b) : vL h' b = vL h b := by
  by_cases q : b = a
  · subst q; rw [f1, f2]
  · exact x_vL_c (f3 b q)
theorem o_cO {h : z_H} {a : Nat} {x : Nat × List Value} (e : h a = some (.inr x)) : vL h a = fun _ => 0 := by funext j; simp only [vL, e]
theorem o_cI {h : z_H} {a t n : Nat} {g : Nat → Int32} (e : h a = some (.inl (t, n, .inl g))) : vL h a = fun _ => 0 := by funext j; simp only [vL, e]
theorem o_sI {f : z_H → Option β} {v : Int32} (T : x_U L π h) (ha : qκ L a = c + 1) (hc : c < 13) (ht : (q_tb c)[k]? = some 0) (H : ∀ h', x_U L π h' → (∀ a' k', vI h' a' k' = if a' = a ∧ k' = k then v else vI h a' k') → (∀ a', vA h' a' = vA h a') → (∀ a', vL h' a' = vL h a') → qi (f h') Q) : qi (z_b (sF h a c k (.int v)) f) Q := by
  intro r z
  obtain ⟨h', e1, e2⟩ := z_bs z
  obtain ⟨fs, f1, f2, f3⟩ := sF_s e1
  have P := l_sI (f := fun x => some x) (Q := fun h' => x_U L π h' ∧ (∀ a' k', vI h' a' k' = if a' = a ∧ k' = k then v else vI h a' k') ∧ (∀ a', vA h' a' = vA h a')) (v := v) T ha hc ht (fun h' q1 q2 q3 => qi_some ⟨q1, q2, q3⟩) h' (by rw [e1]; rfl)
  have u2 : h' a = some (.inr (c, fs.set k (.int v))) := by rw [f3]; exact if_pos rfl
  exact H h' P.1 P.2.1 P.2.2 (fun b => o_cL (o_cO f1) (o_cO u2) (fun b hb => by rw [f3]; exact if_neg hb)) r e2
theorem o_uI {f : z_H → Option β} {t : Nat} {i x : Int32} (T : x_U L π h) (H : ∀ h', x_U L π h' → 0 ≤ i → (∀ a' k', vI h' a' k' = vI h a' k') → (∀ a' j, 0 ≤ j → vA h' a' j = if a' = a ∧ j = i then x else vA h a' j) → (∀ a', a' ≠ a → vA h' a' = vA h a') → (∀ a', vL h' a' = vL h a') → qi (f h') Q) : qi (z_b (uI h a t i x) f) Q := by
  intro r z
  obtain ⟨h', e1, e2⟩ := z_bs z
  obtain ⟨n, g, f1, f2, f3⟩ := uI_s e1
  have P := l_uI (f := fun x => some x) (Q := fun h' => x_U L π h' ∧ 0 ≤ i ∧ (∀ a' k', vI h' a' k' = vI h a' k') ∧ (∀ a' j, 0 ≤ j → vA h' a' j = if a' = a ∧ j = i then x else vA h a' j) ∧ (∀ a', a' ≠ a → vA h' a' = vA h a')) (t := t) (i := i) (x := x) T (fun h' q1 q2 q3 q4 q5 => qi_some ⟨q1, q2, q3, q4, q5⟩) h' (by rw [e1]; rfl)
  have u2 : h' a = some (.inl (t, n, .inl (upd g i.toNatClampNeg x))) := by rw [f3]; exact if_pos rfl
  exact H h' P.1 P.2.1 P.2.2.1 P.2.2.2.1 P.2.2.2.2 (fun b => o_cL (o_cI f1) (o_cI u2) (fun b hb => by rw [f3]; exact if_neg hb)) r e2
theorem o_uI28 {f : z_H → Option β} {i x : Int32} (T : x_U L π h) (ha : q_M L π a) (H : i < 600 → ∀ h', x_U L π h' → 0 ≤ i → (∀ a' k', vI h' a' k' = vI h a' k') → (∀ a' j, 0 ≤ j → vA h' a' j = if a' = a + 28 ∧ j = i then x else vA h a' j) → (∀ a', a' ≠ a + 28 → vA h' a' = vA h a') → (∀ a', vL h' a' = vL h a') → qi (f h') Q) : qi (z_b (uI h (a + 28) 0 i x) f) Q := by
  intro r z
  obtain ⟨h', e1, e2⟩ := z_bs z
  obtain ⟨n, g, f1, f2, f3⟩ := uI_s e1
  have P := l_uI28 (f := fun x => some x) (Q := fun h' => i < 600 ∧ x_U L π h' ∧ 0 ≤ i ∧ (∀ a' k', vI h' a' k' = vI h a' k') ∧ (∀ a' j, 0 ≤ j → vA h' a' j = if a' = a + 28 ∧ j = i then x else vA h a' j) ∧ (∀ a', a' ≠ a + 28 → vA h' a' = vA h a')) (i := i) (x := x) T ha (fun q0 h' q1 q2 q3 q4 q5 => qi_some ⟨q0, q1, q2, q3, q4, q5⟩) h' (by rw [e1]; rfl)
  have u2 : h' (a + 28) = some (.inl (0, n, .inl (upd g i.toNatClampNeg x))) := by rw [f3]; exact if_pos rfl
  exact H P.1 h' P.2.1 P.2.2.1 P.2.2.2.1 P.2.2.2.2.1 P.2.2.2.2.2 (fun b => o_cL (o_cI f1) (o_cI u2) (fun b hb => by rw [f3]; exact if_neg hb)) r e2
theorem o_uL {f : z_H → Option β} {i : Int32} {x : Int64} (T : x_U L π h) (H : ∀ h', x_U L π h' → 0 ≤ i → (∀ a' k', vI h' a' k' = vI h a' k') → (∀ a', vA h' a' = vA h a') → (∀ a' j, 0 ≤ j → vL h' a' j = if a' = a ∧ j = i then x else vL h a' j) → (∀ a', a' ≠ a → vL h' a' = vL h a') → qi (f h') Q) : qi (z_b (uL h a i x) f) Q := by
  intro r z
  obtain ⟨h', e1, e2⟩ := z_bs z
  have P := l_uL (f := fun x => some x) (Q := fun h' => x_U L π h' ∧ (∀ a' k', vI h' a' k' = vI h a' k') ∧ (∀ a', vA h' a' = vA h a')) (i := i) (x := x) T (fun h' q1 q2 q3 => qi_some ⟨q1, q2, q3⟩) h' (by rw [e1]; rfl)
  have P2 := l_uLc (f := fun x => some x) (Q := fun h' => 0 ≤ i ∧ (∀ b, b ≠ a → h' b = h b) ∧ (∀ j, 0 ≤ j → vL h' a j = if j = i then x else vL h a j)) (i := i) (x := x) T (fun h' q1 q2 q3 q4 => qi_some ⟨q2, q3, q4⟩) h' (by rw [e1]; rfl)
  refine H h' P.1 P2.1 P.2.1 P.2.2 (fun b j j0 => ?_) (fun b hb => x_vL_c (P2.2.1 b hb)) r e2
  by_cases q : b = a
  · subst q
    rw [P2.2.2 j j0]
    by_cases w : j = i
    · rw [if_pos w, if_pos ⟨rfl, w⟩]
    · rw [if_neg w, if_neg (fun z => w z.2)]
  · rw [if_neg (fun z => q z.1), x_vL_c (P2.2.1 b q)]

theorem o_Cur_0 {f : z_H → Option β} {q : Nat} (T : x_U L π h) (ha : qκ L a = 3) (H : ∀ π' h', x_U L π' h' → (∀ a' k', π' a' k' = if a' = a ∧ k' = 0 then some q else π a' k') → (∀ a' k', vI h' a' k' = vI h a' k') → (∀ a', vA h' a' = vA h a') → (∀ a', vL h' a' = vL h a') → qi (f h') Q) : qi (z_b (sF h a 2 0 (.ref q)) f) Q := by
  intro r z
  obtain ⟨h', e1, e2⟩ := z_bs z
  obtain ⟨fs, f1, f2, f3⟩ := sF_s e1
  have P := l_Cur_0 (f := fun x => some x) (Q := fun h' => ∃ π', x_U L π' h' ∧ (∀ a' k', π' a' k' = if a' = a ∧ k' = 0 then some q else π a' k') ∧ (∀ a' k', vI h' a' k' = vI h a' k') ∧ (∀ a', vA h' a' = vA h a')) (q := q) T ha (fun π' h' q1 q2 q3 q4 => qi_some ⟨π', q1, q2, q3, q4⟩) h' (by rw [e1]; rfl)
  obtain ⟨π', P1, P2, P3, P4⟩ := P
  have u2 : h' a = some (.inr (2, fs.set 0 (.ref q))) := by rw [f3]; exact if_pos rfl
  exact H π' h' P1 P2 P3 P4 (fun b => o_cL (o_cO f1) (o_cO u2) (fun b hb => by rw [f3]; exact if_neg hb)) r e2
theorem o_Pa_5 {f : z_H → Option β} {q : Nat} (T : x_U L π h) (ha : qκ L a = 7) (H : ∀ π' h', x_U L π' h' → (∀ a' k', π' a' k' = if a' = a ∧ k' = 5 then some q else π a' k') → (∀ a' k', vI h' a' k' = vI h a' k') → (∀ a', vA h' a' = vA h a') → (∀ a', vL h' a' = vL h a') → qi (f h') Q) : qi (z_b (sF h a 6 5 (.ref q)) f) Q := by
  intro r z
  obtain ⟨h', e1, e2⟩ := z_bs z
  obtain ⟨fs, f1, f2, f3⟩ := sF_s e1
  have P := l_Pa_5 (f := fun x => some x) (Q := fun h' => ∃ π', x_U L π' h' ∧ (∀ a' k', π' a' k' = if a' = a ∧ k' = 5 then some q else π a' k') ∧ (∀ a' k', vI h' a' k' = vI h a' k') ∧ (∀ a', vA h' a' = vA h a')) (q := q) T ha (fun π' h' q1 q2 q3 q4 => qi_some ⟨π', q1, q2, q3, q4⟩) h' (by rw [e1]; rfl)
  obtain ⟨π', P1, P2, P3, P4⟩ := P
  have u2 : h' a = some (.inr (6, fs.set 5 (.ref q))) := by rw [f3]; exact if_pos rfl
  exact H π' h' P1 P2 P3 P4 (fun b => o_cL (o_cO f1) (o_cO u2) (fun b hb => by rw [f3]; exact if_neg hb)) r e2
theorem o_Pa_6 {f : z_H → Option β} {q : Nat} (T : x_U L π h) (ha : qκ L a = 7) (H : ∀ π' h', x_U L π' h' → (∀ a' k', π' a' k' = if a' = a ∧ k' = 6 then some q else π a' k') → (∀ a' k', vI h' a' k' = vI h a' k') → (∀ a', vA h' a' = vA h a') → (∀ a', vL h' a' = vL h a') → qi (f h') Q) : qi (z_b (sF h a 6 6 (.ref q)) f) Q := by
  intro r z
  obtain ⟨h', e1, e2⟩ := z_bs z
  obtain ⟨fs, f1, f2, f3⟩ := sF_s e1
  have P := l_Pa_6 (f := fun x => some x) (Q := fun h' => ∃ π', x_U L π' h' ∧ (∀ a' k', π' a' k' = if a' = a ∧ k' = 6 then some q else π a' k') ∧ (∀ a' k', vI h' a' k' = vI h a' k') ∧ (∀ a', vA h' a' = vA h a')) (q := q) T ha (fun π' h' q1 q2 q3 q4 => qi_some ⟨π', q1, q2, q3, q4⟩) h' (by rw [e1]; rfl)
  obtain ⟨π', P1, P2, P3, P4⟩ := P
  have u2 : h' a = some (.inr (6, fs.set 6 (.ref q))) := by rw [f3]; exact if_pos rfl
  exact H π' h' P1 P2 P3 P4 (fun b => o_cL (o_cO f1) (o_cO u2) (fun b hb => by rw [f3]; exact if_neg hb)) r e2
theorem o_Pr_0 {f : z_H → Option β} {q : Nat} (T : x_U L π h) (ha : qκ L a = 9) (H : ∀ π' h', x_U L π' h' → (∀ a' k', π' a' k' = if a' = a ∧ k' = 0 then some q else π a' k') → (∀ a' k', vI h' a' k' = vI h a' k') → (∀ a', vA h' a' = vA h a') → (∀ a', vL h' a' = vL h a') → qi (f h') Q) : qi (z_b (sF h a 8 0 (.ref q)) f) Q := by
  intro r z
  obtain ⟨h', e1, e2⟩ := z_bs z
  obtain ⟨fs, f1, f2, f3⟩ := sF_s e1
  have P := l_Pr_0 (f := fun x => some x) (Q := fun h' => ∃ π', x_U L π' h' ∧ (∀ a' k', π' a' k' = if a' = a ∧ k' = 0 then some q else π a' k') ∧ (∀ a' k', vI h' a' k' = vI h a' k') ∧ (∀ a', vA h' a' = vA h a')) (q := q) T ha (fun π' h' q1 q2 q3 q4 => qi_some ⟨π', q1, q2, q3, q4⟩) h' (by rw [e1]; rfl)
  obtain ⟨π', P1, P2, P3, P4⟩ := P
  have u2 : h' a = some (.inr (8, fs.set 0 (.ref q))) := by rw [f3]; exact if_pos rfl
  exact H π' h' P1 P2 P3 P4 (fun b => o_cL (o_cO f1) (o_cO u2) (fun b hb => by rw [f3]; exact if_neg hb)) r e2
theorem o_Pr_1 {f : z_H → Option β} {q : Nat} (T : x_U L π h) (ha : qκ L a = 9) (H : ∀ π' h', x_U L π' h' → (∀ a' k', π' a' k' = if a' = a ∧ k' = 1 then some q else π a' k') → (∀ a' k', vI h' a' k' = vI h a' k') → (∀ a', vA h' a' = vA h a') → (∀ a', vL h' a' = vL h a') → qi (f h') Q) : qi (z_b (sF h a 8 1 (.ref q)) f) Q := by
  intro r z
  obtain ⟨h', e1, e2⟩ := z_bs z
  obtain ⟨fs, f1, f2, f3⟩ := sF_s e1
  have P := l_Pr_1 (f := fun x => some x) (Q := fun h' => ∃ π', x_U L π' h' ∧ (∀ a' k', π' a' k' = if a' = a ∧ k' = 1 then some q else π a' k') ∧ (∀ a' k', vI h' a' k' = vI h a' k') ∧ (∀ a', vA h' a' = vA h a')) (q := q) T ha (fun π' h' q1 q2 q3 q4 => qi_some ⟨π', q1, q2, q3, q4⟩) h' (by rw [e1]; rfl)
  obtain ⟨π', P1, P2, P3, P4⟩ := P
  have u2 : h' a = some (.inr (8, fs.set 1 (.ref q))) := by rw [f3]; exact if_pos rfl
  exact H π' h' P1 P2 P3 P4 (fun b => o_cL (o_cO f1) (o_cO u2) (fun b hb => by rw [f3]; exact if_neg hb)) r e2
theorem o_Pr_2 {f : z_H → Option β} {q : Nat} (T : x_U L π h) (ha : qκ L a = 9) (H : ∀ π' h', x_U L π' h' → (∀ a' k', π' a' k' = if a' = a ∧ k' = 2 then some q else π a' k') → (∀ a' k', vI h' a' k' = vI h a' k') → (∀ a', vA h' a' = vA h a') → (∀ a', vL h' a' = vL h a') → qi (f h') Q) : qi (z_b (sF h a 8 2 (.ref q)) f) Q := by
  intro r z
  obtain ⟨h', e1, e2⟩ := z_bs z
  obtain ⟨fs, f1, f2, f3⟩ := sF_s e1
  have P := l_Pr_2 (f := fun x => some x) (Q := fun h' => ∃ π', x_U L π' h' ∧ (∀ a' k', π' a' k' = if a' = a ∧ k' = 2 then some q else π a' k') ∧ (∀ a' k', vI h' a' k' = vI h a' k') ∧ (∀ a', vA h' a' = vA h a')) (q := q) T ha (fun π' h' q1 q2 q3 q4 => qi_some ⟨π', q1, q2, q3, q4⟩) h' (by rw [e1]; rfl)
  obtain ⟨π', P1, P2, P3, P4⟩ := P
  have u2 : h' a = some (.inr (8, fs.set 2 (.ref q))) := by rw [f3]; exact if_pos rfl
  exact H π' h' P1 P2 P3 P4 (fun b => o_cL (o_cO f1) (o_cO u2) (fun b hb => by rw [f3]; exact if_neg hb)) r e2
theorem o_SF_6 {f : z_H → Option β} {q : Nat} (T : x_U L π h) (ha : qκ L a = 12) (H : ∀ π' h', x_U L π' h' → (∀ a' k', π' a' k' = if a' = a ∧ k' = 6 then some q else π a' k') → (∀ a' k', vI h' a' k' = vI h a' k') → (∀ a', vA h' a' = vA h a') → (∀ a', vL h' a' = vL h a') → qi (f h') Q) : qi (z_b (sF h a 11 6 (.ref q)) f) Q := by
  intro r z
  obtain ⟨h', e1, e2⟩ := z_bs z
  obtain ⟨fs, f1, f2, f3⟩ := sF_s e1
  have P := l_SF_6 (f := fun x => some x) (Q := fun h' => ∃ π', x_U L π' h' ∧ (∀ a' k', π' a' k' = if a' = a ∧ k' = 6 then some q else π a' k') ∧ (∀ a' k', vI h' a' k' = vI h a' k') ∧ (∀ a', vA h' a' = vA h a')) (q := q) T ha (fun π' h' q1 q2 q3 q4 => qi_some ⟨π', q1, q2, q3, q4⟩) h' (by rw [e1]; rfl)
  obtain ⟨π', P1, P2, P3, P4⟩ := P
  have u2 : h' a = some (.inr (11, fs.set 6 (.ref q))) := by rw [f3]; exact if_pos rfl
  exact H π' h' P1 P2 P3 P4 (fun b => o_cL (o_cO f1) (o_cO u2) (fun b hb => by rw [f3]; exact if_neg hb)) r e2
theorem o_SF_7 {f : z_H → Option β} {q : Nat} (T : x_U L π h) (ha : qκ L a = 12) (H : ∀ π' h', x_U L π' h' → (∀ a' k', π' a' k' = if a' = a ∧ k' = 7 then some q else π a' k') → (∀ a' k', vI h' a' k' = vI h a' k') → (∀ a', vA h' a' = vA h a') → (∀ a', vL h' a' = vL h a') → qi (f h') Q) : qi (z_b (sF h a 11 7 (.ref q)) f) Q := by
  intro r z
  obtain ⟨h', e1, e2⟩ := z_bs z
  obtain ⟨fs, f1, f2, f3⟩ := sF_s e1
  have P := l_SF_7 (f := fun x => some x) (Q := fun h' => ∃ π', x_U L π' h' ∧ (∀ a' k', π' a' k' = if a' = a ∧ k' = 7 then some q else π a' k') ∧ (∀ a' k', vI h' a' k' = vI h a' k') ∧ (∀ a', vA h' a' = vA h a')) (q := q) T ha (fun π' h' q1 q2 q3 q4 => qi_some ⟨π', q1, q2, q3, q4⟩) h' (by rw [e1]; rfl)
  obtain ⟨π', P1, P2, P3, P4⟩ := P
  have u2 : h' a = some (.inr (11, fs.set 7 (.ref q))) := by rw [f3]; exact if_pos rfl
  exact H π' h' P1 P2 P3 P4 (fun b => o_cL (o_cO f1) (o_cO u2) (fun b hb => by rw [f3]; exact if_neg hb)) r e2
end OR
