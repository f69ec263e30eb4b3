/-! out and ran: the same answer -/
section V3
variable {L : q_L} {h : z_H} {sf mo ou N : Nat}
theorem l9_out {w : Int32} (hN : 100000 ≤ N) (ks : qκ L sf = 12) (ko : qκ L ou = 1 * 1000 + 200) (d1 : sf + 552 ≤ mo) (d2 : mo + 46 ≤ ou) (ly : y_L L (sf + 9)) (V : q_INV L sf mo h) (K : x_K8 sf mo h) (K4 : x_K4 L sf mo h) : ∃ y h1 b h2, f_Law_out N sf w ou h = some (y, h1) ∧ gO h1 mo 12 = some () ∧ f_Mod_out N mo w h1 = some (b, h2) ∧ q_INV L sf mo h2 ∧ x_K8 sf mo h2 ∧ x_K4 L sf mo h2 ∧ gO h2 mo 12 = some () ∧ f_Mod_thrown N mo h2 = some (y, h2) ∧ (y = 0 → aL h2 ou 0 = some (Int32.toInt64 b)) := by
  obtain ⟨y, h1, b, h2, c1, g1, c3, V2, K2, K42⟩ := l8_out (w := w) hN ks ko d1 d2 V K K4
  refine ⟨y, h1, b, h2, c1, g1, c3, V2, K2, K42, ?_⟩
  obtain ⟨π, T, M, I, L0, e1, e2, e3, e4⟩ := V
  obtain ⟨⟨y9, h9⟩, c9, W1, -⟩ := i_out (N := N) (w := w) T ks (fun _ _ _ => trivial) ko trivial I hN
  have ee := Option.some.inj (c1.symm.trans c9)
  cases ee
  obtain ⟨π1, D⟩ := q_mid T M L0 d1 (q_WR_0 W1)
  obtain ⟨⟨y7, h7⟩, c7, ⟨π7, T7, -⟩, -⟩ := i_out (N := N) (w := w) (W := q_Wc sf ou) (q_rr T) ks (fun a p q => Or.inl ⟨p, q⟩) ko (Or.inr rfl) I hN
  have ee := Option.some.inj (c1.symm.trans c7)
  cases ee
  have cm : ∀ a, mo ≤ a → a < mo + 46 → h1 a = h a := fun a p q => q_ce T7 (fun z => by rcases z with z | z <;> omega)
  unfold f_Law_out at c1
  obtain ⟨r, er, ec, ev, eE⟩ := x_wrp c1 (fun E h4 y5 h5 z => by first | exact x_ih z (fun z => by cases z) | exact x_ih z (fun z => x_ih z (fun z => by cases z)) | exact x_ih z (fun z => x_ih z (fun z => x_ih z (fun z => by cases z))) | exact x_ih z (fun z => x_ih z (fun z => x_ih z (fun z => x_ih z (fun z => by cases z)))) | exact x_ih z (fun z => x_ih z (fun z => x_ih z (fun z => x_ih z (fun z => x_ih z (fun z => by cases z))))) | cases z)
  obtain ⟨T1, M1, I1, L1, -⟩ := id D
  obtain ⟨⟨b6, h6⟩, c6, T2, -⟩ := p_Mod_out (N := N) (v1 := w) T1 M1 q_Wmw
  have ee := Option.some.inj (c3.symm.trans c6)
  cases ee
  dsimp only at T2
  obtain ⟨π4, sp, ho, dr, O, S, H, A, S0, ⟨RO, RS, RH⟩, NB⟩ := K4
  have RO1 : r_R1 h1 mo 69 43 600 O := r_R1_c RO (x_vI_c (cm mo (by omega) (by omega))) (cm _ (by omega) (by omega))
  have R := x_SF_out9 (N := N) (w := w) S0.1.1 ks ly S0.2.2.1 r er
  obtain ⟨Q1, Q2⟩ := x_Mod_out9 (N := N) (w := w) (x_U_of T1) M1 RO1 _ c3
  dsimp only at Q1 Q2
  rw [q_thr T2 M1]
  refine ⟨q_gOm T2 M1, ?_⟩
  by_cases z : 0 ≤ w ∧ w < x_nl8 O
  · obtain ⟨q1, q2⟩ := Q1 z
    have rv : r.1 = .inl (x_at8 O w) := by rw [R]; exact if_neg (x_at8n RO.2.2 (by rw [← (r_at8 RO).1]; exact RO.2.1.2) z)
    obtain ⟨y0, eu⟩ := ev _ rv
    exact ⟨by rw [q1, y0], fun _ => by rw [q_aLk T2 d2, uL_a eu, q2]⟩
  · have q1 := Q2 z
    have rv : r.1 = .inr xE3 := by rw [R]; exact if_pos (by unfold x_at8; exact if_neg z)
    have x1 := eE _ rv
    rw [if_pos rfl] at x1
    have y1 : y = 1 := (congrArg Prod.fst (Option.some.inj x1)).symm
    exact ⟨by rw [q1, y1], fun z => absurd (y1.symm.trans z) (by decide)⟩
theorem l9_ran {w : Int32} (hN : 100000 ≤ N) (ks : qκ L sf = 12) (ko : qκ L ou = 1 * 1000 + 200) (d1 : sf + 552 ≤ mo) (d2 : mo + 46 ≤ ou) (ly : y_L L (sf + 9)) (V : q_INV L sf mo h) (K : x_K8 sf mo h) (K4 : x_K4 L sf mo h) : ∃ y h1 b h2, f_Law_ran N sf w ou h = some (y, h1) ∧ gO h1 mo 12 = some () ∧ f_Mod_ran N mo w h1 = some (b, h2) ∧ q_INV L sf mo h2 ∧ x_K8 sf mo h2 ∧ x_K4 L sf mo h2 ∧ gO h2 mo 12 = some () ∧ f_Mod_thrown N mo h2 = some (y, h2) ∧ (y = 0 → aL h2 ou 0 = some (Int32.toInt64 b)) := by
  obtain ⟨y, h1, b, h2, c1, g1, c3, V2, K2, K42⟩ := l8_ran (w := w) hN ks ko d1 d2 V K K4
  refine ⟨y, h1, b, h2, c1, g1, c3, V2, K2, K42, ?_⟩
  obtain ⟨π, T, M, I, L0, e1, e2, e3, e4⟩ := V
  obtain ⟨⟨y9, h9⟩, c9, W1, -⟩ := i_ran (N := N) (w := w) T ks (fun _ _ _ => trivial) ko trivial I hN
  have ee := Option.some.inj (c1.symm.trans c9)
  cases ee
  obtain ⟨π1, D⟩ := q_mid T M L0 d1 (q_WR_0 W1)
  obtain ⟨⟨y7, h7⟩, c7, ⟨π7, T7, -⟩, -⟩ := i_ran (N := N) (w := w) (W := q_Wc sf ou) (q_rr T) ks (fun a p q => Or.inl ⟨p, q⟩) ko (Or.inr rfl) I hN
  have ee := Option.some.inj (c1.symm.trans c7)
  cases ee
  have cm : ∀ a, mo ≤ a → a < mo + 46 → h1 a = h a := fun a p q => q_ce T7 (fun z => by rcases z with z | z <;> omega)
  unfold f_Law_ran at c1
  obtain ⟨r, er, ec, ev, eE⟩ := x_wrp c1 (fun E h4 y5 h5 z => by first | exact x_ih z (fun z => by cases z) | exact x_ih z (fun z => x_ih z (fun z => by cases z)) | exact x_ih z (fun z => x_ih z (fun z => x_ih z (fun z => by cases z))) | exact x_ih z (fun z => x_ih z (fun z => x_ih z (fun z => x_ih z (fun z => by cases z)))) | exact x_ih z (fun z => x_ih z (fun z => x_ih z (fun z => x_ih z (fun z => x_ih z (fun z => by cases z))))) | cases z)
  obtain ⟨T1, M1, I1, L1, -⟩ := id D
  obtain ⟨⟨b6, h6⟩, c6, T2, -⟩ := p_Mod_ran (N := N) (v1 := w) T1 M1 q_Wmw
  have ee := Option.some.inj (c3.symm.trans c6)
  cases ee
  dsimp only at T2
  obtain ⟨π4, sp, ho, dr, O, S, H, A, S0, ⟨RO, RS, RH⟩, NB⟩ := K4
  have RO1 : r_R1 h1 mo 69 43 600 O := r_R1_c RO (x_vI_c (cm mo (by omega) (by omega))) (cm _ (by omega) (by omega))
  have RS1 : r_R1 h1 mo 65 39 60 S := r_R1_c RS (x_vI_c (cm mo (by omega) (by omega))) (cm _ (by omega) (by omega))
  have RH1 : r_R1 h1 mo 66 40 60 H := r_R1_c RH (x_vI_c (cm mo (by omega) (by omega))) (cm _ (by omega) (by omega))
  have R := x_SF_ran9 (N := N) (w := w) ks ly S0 r er
  have Q := x_Mod_ran9 (N := N) (w := w) (x_U_of T1) M1 RO1 RS1 RH1 _ c3
  dsimp only at Q
  obtain ⟨n3, n4, n5, n6⟩ := NB
  have eI : ∀ k, vI h1 mo k = vI h mo k := fun k => x_vI_c (cm mo (by omega) (by omega))
  rw [eI, eI, eI, eI, ← n3, ← n4, ← n5, ← n6] at Q
  rw [q_thr T2 M1]
  refine ⟨q_gOm T2 M1, ?_⟩
  rcases Q with ⟨q1, q2⟩ | ⟨q1, q2⟩
  · have rv : r.1 = .inl b := by rw [R, q2]; rfl
    obtain ⟨y0, eu⟩ := ev _ rv
    exact ⟨by rw [q1, y0], fun _ => by rw [q_aLk T2 d2, uL_a eu]⟩
  · have rv : r.1 = .inr xE1 := by rw [R, q2]; rfl
    have x1 := eE _ rv
    rw [if_pos rfl] at x1
    have y1 : y = 1 := (congrArg Prod.fst (Option.some.inj x1)).symm
    exact ⟨by rw [q1, y1], fun z => absurd (y1.symm.trans z) (by decide)⟩
end V3
