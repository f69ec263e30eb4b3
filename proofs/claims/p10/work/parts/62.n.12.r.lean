section LR8
variable {L : q_L} {π : Nat → Nat → Option Nat} {h : z_H} {a c k : Nat} {β : Type} {Q : β → Prop}
theorem l_Ma_2 {f : z_H → Option β} {q : Nat} (T : x_U L π h) (ha : qκ L a = 6) (H : ∀ π' h', x_U L π' h' → (∀ a' k', π' a' k' = if a' = a ∧ k' = 2 then some q else π a' k') → (∀ b, b ≠ a → h' b = h b) → (∀ k', vI h' a k' = vI h a k') → qi (f h') Q) : qi (z_b (sF h a 5 2 (.ref q)) f) Q := by
  obtain ⟨h', e1, e2, e3⟩ := q_sR (L := x_L L) (ci := 5) (k := 2) (q := q) (x_T T) ha (by decide) rfl trivial
  obtain ⟨fs, f1, f2, f3⟩ := sF_s e1
  rw [e1]
  refine H _ h' ⟨T.1, ?_, e2.1, e2.2.2.2.1, e2.2.2.2.2.1⟩ (fun _ _ => rfl) (fun b hb => by rw [f3]; exact if_neg hb) (fun k' => e3.1 a k')
  refine ⟨?_, ?_, ?_, ?_, ?_, ?_, ?_, ?_, ?_, ?_, ?_, ?_⟩
  · intro b hb
    have t := T.2.1.1 b hb
    simpa [q_F_Addr, q_pu, show b ≠ a from fun z => absurd (z ▸ hb) (by rw [ha]; decide)] using t
  · intro b hb
    have t := T.2.1.2.1 b hb
    simpa [q_F_Cmd, q_pu, show b ≠ a from fun z => absurd (z ▸ hb) (by rw [ha]; decide)] using t
  · intro b hb
    have t := T.2.1.2.2.1 b hb
    exact t
  · intro b hb
    have t := T.2.1.2.2.2.1 b hb
    simpa [q_F_Ed, q_pu, show b ≠ a from fun z => absurd (z ▸ hb) (by rw [ha]; decide)] using t
  · intro b hb
    have t := T.2.1.2.2.2.2.1 b hb
    simpa [q_F_It, q_pu, show b ≠ a from fun z => absurd (z ▸ hb) (by rw [ha]; decide)] using t
  · intro b hb
    have t := T.2.1.2.2.2.2.2.1 b hb
    simpa [q_F_Ma, q_pu] using t
  · intro b hb
    have t := T.2.1.2.2.2.2.2.2.1 b hb
    simpa [q_F_Pa, q_pu, show b ≠ a from fun z => absurd (z ▸ hb) (by rw [ha]; decide)] using t
  · intro b hb
    have t := T.2.1.2.2.2.2.2.2.2.1 b hb
    exact t
  · intro b hb
    have t := T.2.1.2.2.2.2.2.2.2.2.1 b hb
    exact t
  · intro b hb
    have t := T.2.1.2.2.2.2.2.2.2.2.2.1 b hb
    simpa [q_F_Prog, q_pu, show b ≠ a from fun z => absurd (z ▸ hb) (by rw [ha]; decide)] using t
  · intro b hb
    have t := T.2.1.2.2.2.2.2.2.2.2.2.2.1 b hb
    simpa [q_F_Row, q_pu, show b ≠ a from fun z => absurd (z ▸ hb) (by rw [ha]; decide)] using t
  · intro b hb
    have t := T.2.1.2.2.2.2.2.2.2.2.2.2.2 b hb
    simpa [q_F_SF, q_pu, show b ≠ a from fun z => absurd (z ▸ hb) (by rw [ha]; decide)] using t
theorem l_Ma_3 {f : z_H → Option β} {q : Nat} (T : x_U L π h) (ha : qκ L a = 6) (H : ∀ π' h', x_U L π' h' → (∀ a' k', π' a' k' = if a' = a ∧ k' = 3 then some q else π a' k') → (∀ b, b ≠ a → h' b = h b) → (∀ k', vI h' a k' = vI h a k') → qi (f h') Q) : qi (z_b (sF h a 5 3 (.ref q)) f) Q := by
  obtain ⟨h', e1, e2, e3⟩ := q_sR (L := x_L L) (ci := 5) (k := 3) (q := q) (x_T T) ha (by decide) rfl trivial
  obtain ⟨fs, f1, f2, f3⟩ := sF_s e1
  rw [e1]
  refine H _ h' ⟨T.1, ?_, e2.1, e2.2.2.2.1, e2.2.2.2.2.1⟩ (fun _ _ => rfl) (fun b hb => by rw [f3]; exact if_neg hb) (fun k' => e3.1 a k')
  refine ⟨?_, ?_, ?_, ?_, ?_, ?_, ?_, ?_, ?_, ?_, ?_, ?_⟩
  · intro b hb
    have t := T.2.1.1 b hb
    simpa [q_F_Addr, q_pu, show b ≠ a from fun z => absurd (z ▸ hb) (by rw [ha]; decide)] using t
  · intro b hb
    have t := T.2.1.2.1 b hb
    simpa [q_F_Cmd, q_pu, show b ≠ a from fun z => absurd (z ▸ hb) (by rw [ha]; decide)] using t
  · intro b hb
    have t := T.2.1.2.2.1 b hb
    exact t
  · intro b hb
    have t := T.2.1.2.2.2.1 b hb
    simpa [q_F_Ed, q_pu, show b ≠ a from fun z => absurd (z ▸ hb) (by rw [ha]; decide)] using t
  · intro b hb
    have t := T.2.1.2.2.2.2.1 b hb
    simpa [q_F_It, q_pu, show b ≠ a from fun z => absurd (z ▸ hb) (by rw [ha]; decide)] using t
  · intro b hb
    have t := T.2.1.2.2.2.2.2.1 b hb
    simpa [q_F_Ma, q_pu] using t
  · intro b hb
    have t := T.2.1.2.2.2.2.2.2.1 b hb
    simpa [q_F_Pa, q_pu, show b ≠ a from fun z => absurd (z ▸ hb) (by rw [ha]; decide)] using t
  · intro b hb
    have t := T.2.1.2.2.2.2.2.2.2.1 b hb
    exact t
  · intro b hb
    have t := T.2.1.2.2.2.2.2.2.2.2.1 b hb
    exact t
  · intro b hb
    have t := T.2.1.2.2.2.2.2.2.2.2.2.1 b hb
    simpa [q_F_Prog, q_pu, show b ≠ a from fun z => absurd (z ▸ hb) (by rw [ha]; decide)] using t
  · intro b hb
    have t := T.2.1.2.2.2.2.2.2.2.2.2.2.1 b hb
    simpa [q_F_Row, q_pu, show b ≠ a from fun z => absurd (z ▸ hb) (by rw [ha]; decide)] using t
  · intro b hb
    have t := T.2.1.2.2.2.2.2.2.2.2.2.2.2 b hb
    simpa [q_F_SF, q_pu, show b ≠ a from fun z => absurd (z ▸ hb) (by rw [ha]; decide)] using t
theorem l_Ma_4 {f : z_H → Option β} {q : Nat} (T : x_U L π h) (ha : qκ L a = 6) (H : ∀ π' h', x_U L π' h' → (∀ a' k', π' a' k' = if a' = a ∧ k' = 4 then some q else π a' k') → (∀ b, b ≠ a → h' b = h b) → (∀ k', vI h' a k' = vI h a k') → qi (f h') Q) : qi (z_b (sF h a 5 4 (.ref q)) f) Q := by
  obtain ⟨h', e1, e2, e3⟩ := q_sR (L := x_L L) (ci := 5) (k := 4) (q := q) (x_T T) ha (by decide) rfl trivial
  obtain ⟨fs, f1, f2, f3⟩ := sF_s e1
  rw [e1]
  refine H _ h' ⟨T.1, ?_, e2.1, e2.2.2.2.1, e2.2.2.2.2.1⟩ (fun _ _ => rfl) (fun b hb => by rw [f3]; exact if_neg hb) (fun k' => e3.1 a k')
  refine ⟨?_, ?_, ?_, ?_, ?_, ?_, ?_, ?_, ?_, ?_, ?_, ?_⟩
  · intro b hb
    have t := T.2.1.1 b hb
    simpa [q_F_Addr, q_pu, show b ≠ a from fun z => absurd (z ▸ hb) (by rw [ha]; decide)] using t
  · intro b hb
    have t := T.2.1.2.1 b hb
    simpa [q_F_Cmd, q_pu, show b ≠ a from fun z => absurd (z ▸ hb) (by rw [ha]; decide)] using t
  · intro b hb
    have t := T.2.1.2.2.1 b hb
    exact t
  · intro b hb
    have t := T.2.1.2.2.2.1 b hb
    simpa [q_F_Ed, q_pu, show b ≠ a from fun z => absurd (z ▸ hb) (by rw [ha]; decide)] using t
  · intro b hb
    have t := T.2.1.2.2.2.2.1 b hb
    simpa [q_F_It, q_pu, show b ≠ a from fun z => absurd (z ▸ hb) (by rw [ha]; decide)] using t
  · intro b hb
    have t := T.2.1.2.2.2.2.2.1 b hb
    simpa [q_F_Ma, q_pu] using t
  · intro b hb
    have t := T.2.1.2.2.2.2.2.2.1 b hb
    simpa [q_F_Pa, q_pu, show b ≠ a from fun z => absurd (z ▸ hb) (by rw [ha]; decide)] using t
  · intro b hb
    have t := T.2.1.2.2.2.2.2.2.2.1 b hb
    exact t
  · intro b hb
    have t := T.2.1.2.2.2.2.2.2.2.2.1 b hb
    exact t
  · intro b hb
    have t := T.2.1.2.2.2.2.2.2.2.2.2.1 b hb
    simpa [q_F_Prog, q_pu, show b ≠ a from fun z => absurd (z ▸ hb) (by rw [ha]; decide)] using t
  · intro b hb
    have t := T.2.1.2.2.2.2.2.2.2.2.2.2.1 b hb
    simpa [q_F_Row, q_pu, show b ≠ a from fun z => absurd (z ▸ hb) (by rw [ha]; decide)] using t
  · intro b hb
    have t := T.2.1.2.2.2.2.2.2.2.2.2.2.2 b hb
    simpa [q_F_SF, q_pu, show b ≠ a from fun z => absurd (z ▸ hb) (by rw [ha]; decide)] using t
theorem l_Ed_1 {f : z_H → Option β} {q : Nat} (T : x_U L π h) (ha : qκ L a = 4) (H : ∀ π' h', x_U L π' h' → (∀ a' k', π' a' k' = if a' = a ∧ k' = 1 then some q else π a' k') → (∀ b, b ≠ a → h' b = h b) → (∀ k', vI h' a k' = vI h a k') → qi (f h') Q) : qi (z_b (sF h a 3 1 (.ref q)) f) Q := by
  obtain ⟨h', e1, e2, e3⟩ := q_sR (L := x_L L) (ci := 3) (k := 1) (q := q) (x_T T) ha (by decide) rfl trivial
  obtain ⟨fs, f1, f2, f3⟩ := sF_s e1
  rw [e1]
  refine H _ h' ⟨T.1, ?_, e2.1, e2.2.2.2.1, e2.2.2.2.2.1⟩ (fun _ _ => rfl) (fun b hb => by rw [f3]; exact if_neg hb) (fun k' => e3.1 a k')
  refine ⟨?_, ?_, ?_, ?_, ?_, ?_, ?_, ?_, ?_, ?_, ?_, ?_⟩
  · intro b hb
    have t := T.2.1.1 b hb
    simpa [q_F_Addr, q_pu, show b ≠ a from fun z => absurd (z ▸ hb) (by rw [ha]; decide)] using t
  · intro b hb
    have t := T.2.1.2.1 b hb
    simpa [q_F_Cmd, q_pu, show b ≠ a from fun z => absurd (z ▸ hb) (by rw [ha]; decide)] using t
  · intro b hb
    have t := T.2.1.2.2.1 b hb
    exact t
  · intro b hb
    have t := T.2.1.2.2.2.1 b hb
    simpa [q_F_Ed, q_pu] using t
  · intro b hb
    have t := T.2.1.2.2.2.2.1 b hb
    simpa [q_F_It, q_pu, show b ≠ a from fun z => absurd (z ▸ hb) (by rw [ha]; decide)] using t
  · intro b hb
    have t := T.2.1.2.2.2.2.2.1 b hb
    simpa [q_F_Ma, q_pu, show b ≠ a from fun z => absurd (z ▸ hb) (by rw [ha]; decide)] using t
  · intro b hb
    have t := T.2.1.2.2.2.2.2.2.1 b hb
    simpa [q_F_Pa, q_pu, show b ≠ a from fun z => absurd (z ▸ hb) (by rw [ha]; decide)] using t
  · intro b hb
    have t := T.2.1.2.2.2.2.2.2.2.1 b hb
    exact t
  · intro b hb
    have t := T.2.1.2.2.2.2.2.2.2.2.1 b hb
    exact t
  · intro b hb
    have t := T.2.1.2.2.2.2.2.2.2.2.2.1 b hb
    simpa [q_F_Prog, q_pu, show b ≠ a from fun z => absurd (z ▸ hb) (by rw [ha]; decide)] using t
  · intro b hb
    have t := T.2.1.2.2.2.2.2.2.2.2.2.2.1 b hb
    simpa [q_F_Row, q_pu, show b ≠ a from fun z => absurd (z ▸ hb) (by rw [ha]; decide)] using t
  · intro b hb
    have t := T.2.1.2.2.2.2.2.2.2.2.2.2.2 b hb
    simpa [q_F_SF, q_pu, show b ≠ a from fun z => absurd (z ▸ hb) (by rw [ha]; decide)] using t
theorem l_Ed_2 {f : z_H → Option β} {q : Nat} (T : x_U L π h) (ha : qκ L a = 4) (H : ∀ π' h', x_U L π' h' → (∀ a' k', π' a' k' = if a' = a ∧ k' = 2 then some q else π a' k') → (∀ b, b ≠ a → h' b = h b) → (∀ k', vI h' a k' = vI h a k') → qi (f h') Q) : qi (z_b (sF h a 3 2 (.ref q)) f) Q := by
  obtain ⟨h', e1, e2, e3⟩ := q_sR (L := x_L L) (ci := 3) (k := 2) (q := q) (x_T T) ha (by decide) rfl trivial
  obtain ⟨fs, f1, f2, f3⟩ := sF_s e1
  rw [e1]
  refine H _ h' ⟨T.1, ?_, e2.1, e2.2.2.2.1, e2.2.2.2.2.1⟩ (fun _ _ => rfl) (fun b hb => by rw [f3]; exact if_neg hb) (fun k' => e3.1 a k')
  refine ⟨?_, ?_, ?_, ?_, ?_, ?_, ?_, ?_, ?_, ?_, ?_, ?_⟩
  · intro b hb
    have t := T.2.1.1 b hb
    simpa [q_F_Addr, q_pu, show b ≠ a from fun z => absurd (z ▸ hb) (by rw [ha]; decide)] using t
  · intro b hb
    have t := T.2.1.2.1 b hb
    simpa [q_F_Cmd, q_pu, show b ≠ a from fun z => absurd (z ▸ hb) (by rw [ha]; decide)] using t
  · intro b hb
    have t := T.2.1.2.2.1 b hb
    exact t
  · intro b hb
    have t := T.2.1.2.2.2.1 b hb
    simpa [q_F_Ed, q_pu] using t
  · intro b hb
    have t := T.2.1.2.2.2.2.1 b hb
    simpa [q_F_It, q_pu, show b ≠ a from fun z => absurd (z ▸ hb) (by rw [ha]; decide)] using t
  · intro b hb
    have t := T.2.1.2.2.2.2.2.1 b hb
    simpa [q_F_Ma, q_pu, show b ≠ a from fun z => absurd (z ▸ hb) (by rw [ha]; decide)] using t
  · intro b hb
    have t := T.2.1.2.2.2.2.2.2.1 b hb
    simpa [q_F_Pa, q_pu, show b ≠ a from fun z => absurd (z ▸ hb) (by rw [ha]; decide)] using t
  · intro b hb
    have t := T.2.1.2.2.2.2.2.2.2.1 b hb
    exact t
  · intro b hb
    have t := T.2.1.2.2.2.2.2.2.2.2.1 b hb
    exact t
  · intro b hb
    have t := T.2.1.2.2.2.2.2.2.2.2.2.1 b hb
    simpa [q_F_Prog, q_pu, show b ≠ a from fun z => absurd (z ▸ hb) (by rw [ha]; decide)] using t
  · intro b hb
    have t := T.2.1.2.2.2.2.2.2.2.2.2.2.1 b hb
    simpa [q_F_Row, q_pu, show b ≠ a from fun z => absurd (z ▸ hb) (by rw [ha]; decide)] using t
  · intro b hb
    have t := T.2.1.2.2.2.2.2.2.2.2.2.2.2 b hb
    simpa [q_F_SF, q_pu, show b ≠ a from fun z => absurd (z ▸ hb) (by rw [ha]; decide)] using t
theorem l_Ed_9 {f : z_H → Option β} {q : Nat} (T : x_U L π h) (ha : qκ L a = 4) (H : ∀ π' h', x_U L π' h' → (∀ a' k', π' a' k' = if a' = a ∧ k' = 9 then some q else π a' k') → (∀ b, b ≠ a → h' b = h b) → (∀ k', vI h' a k' = vI h a k') → qi (f h') Q) : qi (z_b (sF h a 3 9 (.ref q)) f) Q := by
  obtain ⟨h', e1, e2, e3⟩ := q_sR (L := x_L L) (ci := 3) (k := 9) (q := q) (x_T T) ha (by decide) rfl trivial
  obtain ⟨fs, f1, f2, f3⟩ := sF_s e1
  rw [e1]
  refine H _ h' ⟨T.1, ?_, e2.1, e2.2.2.2.1, e2.2.2.2.2.1⟩ (fun _ _ => rfl) (fun b hb => by rw [f3]; exact if_neg hb) (fun k' => e3.1 a k')
  refine ⟨?_, ?_, ?_, ?_, ?_, ?_, ?_, ?_, ?_, ?_, ?_, ?_⟩
  · intro b hb
    have t := T.2.1.1 b hb
    simpa [q_F_Addr, q_pu, show b ≠ a from fun z => absurd (z ▸ hb) (by rw [ha]; decide)] using t
  · intro b hb
    have t := T.2.1.2.1 b hb
    simpa [q_F_Cmd, q_pu, show b ≠ a from fun z => absurd (z ▸ hb) (by rw [ha]; decide)] using t
  · intro b hb
    have t := T.2.1.2.2.1 b hb
    exact t
  · intro b hb
    have t := T.2.1.2.2.2.1 b hb
    simpa [q_F_Ed, q_pu] using t
  · intro b hb
    have t := T.2.1.2.2.2.2.1 b hb
    simpa [q_F_It, q_pu, show b ≠ a from fun z => absurd (z ▸ hb) (by rw [ha]; decide)] using t
  · intro b hb
    have t := T.2.1.2.2.2.2.2.1 b hb
    simpa [q_F_Ma, q_pu, show b ≠ a from fun z => absurd (z ▸ hb) (by rw [ha]; decide)] using t
  · intro b hb
    have t := T.2.1.2.2.2.2.2.2.1 b hb
    simpa [q_F_Pa, q_pu, show b ≠ a from fun z => absurd (z ▸ hb) (by rw [ha]; decide)] using t
  · intro b hb
    have t := T.2.1.2.2.2.2.2.2.2.1 b hb
    exact t
  · intro b hb
    have t := T.2.1.2.2.2.2.2.2.2.2.1 b hb
    exact t
  · intro b hb
    have t := T.2.1.2.2.2.2.2.2.2.2.2.1 b hb
    simpa [q_F_Prog, q_pu, show b ≠ a from fun z => absurd (z ▸ hb) (by rw [ha]; decide)] using t
  · intro b hb
    have t := T.2.1.2.2.2.2.2.2.2.2.2.2.1 b hb
    simpa [q_F_Row, q_pu, show b ≠ a from fun z => absurd (z ▸ hb) (by rw [ha]; decide)] using t
  · intro b hb
    have t := T.2.1.2.2.2.2.2.2.2.2.2.2.2 b hb
    simpa [q_F_SF, q_pu, show b ≠ a from fun z => absurd (z ▸ hb) (by rw [ha]; decide)] using t
theorem l_Ed_10 {f : z_H → Option β} {q : Nat} (T : x_U L π h) (ha : qκ L a = 4) (H : ∀ π' h', x_U L π' h' → (∀ a' k', π' a' k' = if a' = a ∧ k' = 10 then some q else π a' k') → (∀ b, b ≠ a → h' b = h b) → (∀ k', vI h' a k' = vI h a k') → qi (f h') Q) : qi (z_b (sF h a 3 10 (.ref q)) f) Q := by
  obtain ⟨h', e1, e2, e3⟩ := q_sR (L := x_L L) (ci := 3) (k := 10) (q := q) (x_T T) ha (by decide) rfl trivial
  obtain ⟨fs, f1, f2, f3⟩ := sF_s e1
  rw [e1]
  refine H _ h' ⟨T.1, ?_, e2.1, e2.2.2.2.1, e2.2.2.2.2.1⟩ (fun _ _ => rfl) (fun b hb => by rw [f3]; exact if_neg hb) (fun k' => e3.1 a k')
  refine ⟨?_, ?_, ?_, ?_, ?_, ?_, ?_, ?_, ?_, ?_, ?_, ?_⟩
  · intro b hb
    have t := T.2.1.1 b hb
    simpa [q_F_Addr, q_pu, show b ≠ a from fun z => absurd (z ▸ hb) (by rw [ha]; decide)] using t
  · intro b hb
    have t := T.2.1.2.1 b hb
    simpa [q_F_Cmd, q_pu, show b ≠ a from fun z => absurd (z ▸ hb) (by rw [ha]; decide)] using t
  · intro b hb
    have t := T.2.1.2.2.1 b hb
    exact t
  · intro b hb
    have t := T.2.1.2.2.2.1 b hb
    simpa [q_F_Ed, q_pu] using t
  · intro b hb
    have t := T.2.1.2.2.2.2.1 b hb
    simpa [q_F_It, q_pu, show b ≠ a from fun z => absurd (z ▸ hb) (by rw [ha]; decide)] using t
  · intro b hb
    have t := T.2.1.2.2.2.2.2.1 b hb
    simpa [q_F_Ma, q_pu, show b ≠ a from fun z => absurd (z ▸ hb) (by rw [ha]; decide)] using t
  · intro b hb
    have t := T.2.1.2.2.2.2.2.2.1 b hb
    simpa [q_F_Pa, q_pu, show b ≠ a from fun z => absurd (z ▸ hb) (by rw [ha]; decide)] using t
  · intro b hb
    have t := T.2.1.2.2.2.2.2.2.2.1 b hb
    exact t
  · intro b hb
    have t := T.2.1.2.2.2.2.2.2.2.2.1 b hb
    exact t
  · intro b hb
    have t := T.2.1.2.2.2.2.2.2.2.2.2.1 b hb
    simpa [q_F_Prog, q_pu, show b ≠ a from fun z => absurd (z ▸ hb) (by rw [ha]; decide)] using t
  · intro b hb
    have t := T.2.1.2.2.2.2.2.2.2.2.2.2.1 b hb
    simpa [q_F_Row, q_pu, show b ≠ a from fun z => absurd (z ▸ hb) (by rw [ha]; decide)] using t
  · intro b hb
    have t := T.2.1.2.2.2.2.2.2.2.2.2.2.2 b hb
    simpa [q_F_SF, q_pu, show b ≠ a from fun z => absurd (z ▸ hb) (by rw [ha]; decide)] using t
theorem l_Ed_11 {f : z_H → Option β} {q : Nat} (T : x_U L π h) (ha : qκ L a = 4) (H : ∀ π' h', x_U L π' h' → (∀ a' k', π' a' k' = if a' = a ∧ k' = 11 then some q else π a' k') → (∀ b, b ≠ a → h' b = h b) → (∀ k', vI h' a k' = vI h a k') → qi (f h') Q) : qi (z_b (sF h a 3 11 (.ref q)) f) Q := by
  obtain ⟨h', e1, e2, e3⟩ := q_sR (L := x_L L) (ci := 3) (k := 11) (q := q) (x_T T) ha (by decide) rfl trivial
  obtain ⟨fs, f1, f2, f3⟩ := sF_s e1
  rw [e1]
  refine H _ h' ⟨T.1, ?_, e2.1, e2.2.2.2.1, e2.2.2.2.2.1⟩ (fun _ _ => rfl) (fun b hb => by rw [f3]; exact if_neg hb) (fun k' => e3.1 a k')
  refine ⟨?_, ?_, ?_, ?_, ?_, ?_, ?_, ?_, ?_, ?_, ?_, ?_⟩
  · intro b hb
    have t := T.2.1.1 b hb
    simpa [q_F_Addr, q_pu, show b ≠ a from fun z => absurd (z ▸ hb) (by rw [ha]; decide)] using t
  · intro b hb
    have t := T.2.1.2.1 b hb
    simpa [q_F_Cmd, q_pu, show b ≠ a from fun z => absurd (z ▸ hb) (by rw [ha]; decide)] using t
  · intro b hb
    have t := T.2.1.2.2.1 b hb
    exact t
  · intro b hb
    have t := T.2.1.2.2.2.1 b hb
    simpa [q_F_Ed, q_pu] using t
  · intro b hb
    have t := T.2.1.2.2.2.2.1 b hb
    simpa [q_F_It, q_pu, show b ≠ a from fun z => absurd (z ▸ hb) (by rw [ha]; decide)] using t
  · intro b hb
    have t := T.2.1.2.2.2.2.2.1 b hb
    simpa [q_F_Ma, q_pu, show b ≠ a from fun z => absurd (z ▸ hb) (by rw [ha]; decide)] using t
  · intro b hb
    have t := T.2.1.2.2.2.2.2.2.1 b hb
    simpa [q_F_Pa, q_pu, show b ≠ a from fun z => absurd (z ▸ hb) (by rw [ha]; decide)] using t
  · intro b hb
    have t := T.2.1.2.2.2.2.2.2.2.1 b hb
    exact t
  · intro b hb
    have t := T.2.1.2.2.2.2.2.2.2.2.1 b hb
    exact t
  · intro b hb
    have t := T.2.1.2.2.2.2.2.2.2.2.2.1 b hb
    simpa [q_F_Prog, q_pu, show b ≠ a from fun z => absurd (z ▸ hb) (by rw [ha]; decide)] using t
  · intro b hb
    have t := T.2.1.2.2.2.2.2.2.2.2.2.2.1 b hb
    simpa [q_F_Row, q_pu, show b ≠ a from fun z => absurd (z ▸ hb) (by rw [ha]; decide)] using t
  · intro b hb
    have t := T.2.1.2.2.2.2.2.2.2.2.2.2.2 b hb
    simpa [q_F_SF, q_pu, show b ≠ a from fun z => absurd (z ▸ hb) (by rw [ha]; decide)] using t
end LR8
