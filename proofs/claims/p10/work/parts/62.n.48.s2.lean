/-! reference: what comes to the work -/
theorem x_tk390 {W : List Int32} {c : Int32} (h : ¬ (W.take 390).length < 390) : (W ++ [c]).take 390 = W.take 390 := by
  rw [List.length_take] at h
  have l : 390 ≤ W.length := by omega
  rw [List.take_append_of_le_length l]
theorem x_tk391 {W : List Int32} {c : Int32} (h : (W.take 390).length < 390) : (W ++ [c]).take 390 = W.take 390 ++ [c] := by
  rw [List.length_take] at h
  have l : W.length < 390 := by omega
  rw [List.take_of_length_le (by rw [List.length_append]; show W.length + 1 ≤ 390; omega), List.take_of_length_le (by omega)]
theorem x_ctn {n : Int32} (n0 : 0 ≤ n) : ((x_ct 0 n : Nat) : Int) = n.toInt := by
  have q := x_ct_t n0 (Int32.le_refl 0)
  have z : (0 : Int32).toInt = 0 := rfl
  rw [z] at q
  omega
/-- a code of a replacement -/
def x_ck (g c : Int32) : Prop := (c < 200 ∧ x_kc c) ∨ c = 200 ∨ (201 ≤ c ∧ c ≤ 200 + g)
/-- a substitution under way: the work is W, cut at 390 -/
def r_K (L : q_L) (π : Nat → Nat → Option Nat) (v0 : Nat) (h0 h : z_H) (O S H A W : List Int32) : Prop := r_S L π v0 h O S H A ∧ r_sb h v0 S ∧ (r_R1 h v0 67 41 400 (W.take 390) ∧ vI h v0 67 ≤ 390) ∧ r_F v0 h0 h ∧ ∀ k, ¬ (54 ≤ k ∧ k ≤ 57) → k ≠ 67 → vI h v0 k = vI h0 v0 k
/-- the work alone changes -/
def r_V (v0 : Nat) (h h1 : z_H) : Prop := (∀ b, b ≠ v0 → b ≠ v0 + 41 → h1 b = h b) ∧ ∀ k, k ≠ 67 → vI h1 v0 k = vI h v0 k
theorem r_V_r {v0 : Nat} {h : z_H} : r_V v0 h h := ⟨fun _ _ _ => rfl, fun _ _ => rfl⟩
theorem r_V_t {v0 : Nat} {h h1 h2 : z_H} (a : r_V v0 h h1) (b : r_V v0 h1 h2) : r_V v0 h h2 := ⟨fun x y z => (b.1 x y z).trans (a.1 x y z), fun k z => (b.2 k z).trans (a.2 k z)⟩
section S2
variable {L : q_L} {π : Nat → Nat → Option Nat} {N v0 : Nat} {h h0 h1 : z_H} {O S H A W : List Int32} {LN : Int32 → List Int32} {lc rd cy rp sm nx : Int32}
theorem r_K_w (K : r_K L π v0 h0 h O S H A W) (T1 : x_U L π h1) (V : r_V v0 h h1) {W' : List Int32} (w : r_R1 h1 v0 67 41 400 (W'.take 390)) (l : vI h1 v0 67 ≤ 390) : r_K L π v0 h0 h1 O S H A W' := by
  obtain ⟨⟨⟨T, M⟩, a1, a2, a3, a4⟩, sb, w0, F, I⟩ := K
  refine ⟨⟨⟨T1, M⟩, r_R1_c a1 (V.2 69 (by decide)) (V.1 _ (by omega) (by omega)), r_R1_c a2 (V.2 65 (by decide)) (V.1 _ (by omega) (by omega)), r_R1_c a3 (V.2 66 (by decide)) (V.1 _ (by omega) (by omega)), r_R1_c a4 (V.2 68 (by decide)) (V.1 _ (by omega) (by omega))⟩, ⟨(V.2 54 (by decide)).trans sb.1, fun j j0 j1 => ?_⟩, ⟨w, l⟩, ⟨fun a a1 a2 => (V.1 a a2 (by omega)).trans (F.1 a a1 a2), fun k k1 k2 => (V.2 k (by omega)).trans (F.2 k k1 k2)⟩, fun k k1 k2 => (V.2 k k2).trans (I k k1 k2)⟩
  rw [x_vA_c (V.1 (v0 + 36) (by omega) (by omega))]
  exact sb.2 j j0 j1
theorem r_ad {c : Int32} (K : r_K L π v0 h0 h O S H A W) (kc : x_kc c) : qi (f_Mod_add N v0 c h) (fun r => r_K L π v0 h0 r O S H A (W ++ [c]) ∧ r_V v0 h r) := by
  obtain ⟨⟨⟨T, M⟩, -⟩, -, ⟨w, l⟩, -, -⟩ := id K
  have ln := r_R1_len w
  have cn := x_ctn w.2.1.1
  have l3 : (390 : Int32).toInt = 390 := rfl
  unfold f_Mod_add
  refine l_gI (e := vI h v0 67) rfl ?_
  refine qi_if (fun z => ?_) (fun z => ?_)
  · have z' := Int32.le_iff_toInt_le.mp z
    rw [l3] at z'
    refine qi_some ⟨r_K_w K T r_V_r ?_ l, r_V_r⟩
    rw [x_tk390 (by omega)]
    exact w
  · have z' := Int32.lt_iff_toInt_lt.mp (Int32.not_le.mp z)
    rw [l3] at z'
    have lt := Int32.not_le.mp z
    refine l_gR T (d_Mo_60 M) (l_gI (e := vI h v0 67) rfl (l_sIc T M.1 (by decide) rfl ?_))
    intro h2 T2 c2 u2
    refine r_wk T M w (by lia) kc ?_ h2 T2 c2 u2
    intro h3 T3 F3 I3 e3 w3
    refine qi_some ⟨r_K_w K T3 ⟨F3, I3⟩ ?_ ?_, F3, I3⟩
    · rw [x_tk391 (by omega)]
      exact w3
    · rw [e3]; lia
theorem r_co2 {b : Int32} (b60 : b ≤ x_nl8 S) (n60 : x_nl8 S ≤ 60) : ∀ (m : Nat) (a : Int32) (W : List Int32) (h : z_H), r_K L π v0 h0 h O S H A W → 0 ≤ a → a ≤ b → qi (f_Mod_copyOf_2 N m v0 b a h) (fun r => r_K L π v0 h0 r O S H A (W ++ x_sl (x_tl S) a b) ∧ r_V v0 h r) := by
  intro m
  induction m with
  | zero => intro a W h K a0 ab r e; rw [f_Mod_copyOf_2] at e; cases e
  | succ m ih =>
    intro a W h K a0 ab
    obtain ⟨⟨⟨T, M⟩, -, a2, -⟩, sb, ⟨w, l⟩, -, -⟩ := id K
    rw [f_Mod_copyOf_2]
    refine qi_if (fun c => ?_) (fun c => ?_)
    · rw [x_sl_0 c a0 (by lia), List.append_nil]
      exact qi_some ⟨K, r_V_r⟩
    · have cl := Int32.not_le.mp c
      refine l_gR T (d_Mo_51 M) (l_aI (e := x_tl S a) (fun _ => sb.2 a a0 (by lia)) (fun _ => l_gO (qi_b (r_ad (N := N) K (r_R1_k a2 a a0 (by lia))) ?_)))
      rintro h1 ⟨K1, V1⟩
      refine qi_bs (qi_mono (ih (a + 1) _ h1 K1 (by lia) (by lia)) ?_)
      rintro r ⟨K2, V2⟩
      rw [x_sl_1 cl a0]
      rw [List.append_assoc] at K2
      exact ⟨K2, r_V_t V1 V2⟩
theorem r_co {a b : Int32} (K : r_K L π v0 h0 h O S H A W) (a0 : 0 ≤ a) (ab : a ≤ b) (b60 : b ≤ x_nl8 S) : qi (f_Mod_copyOf N v0 a b h) (fun r => r_K L π v0 h0 r O S H A (W ++ x_sl (x_tl S) a b) ∧ r_V v0 h r) := by
  have a2 := K.1.2.2.1
  have tl := r_R1_tl a2
  unfold f_Mod_copyOf
  exact r_co2 (N := N) b60 (by rw [← tl.1]; exact a2.2.1.2) N a W h K a0 ab
theorem r_aR7 {q to g st t : Int32} {gb ge : Int32 → Int32} {sto : Int32 → Int32} (to6 : to ≤ 600) (g3 : g ≤ 3) (gk : x_gk (x_nl8 S) g g gb ge t) (st0 : 0 ≤ st) (stt : st ≤ t) : ∀ (m : Nat) (k : Int32) (W : List Int32) (h : z_H), r_K L π v0 h0 h O S H A W → vA h (v0 + 11) q = to → vA h (v0 + 28) = sto → vI h v0 56 = st → vI h v0 57 = t → x_ag g gb (vA h (v0 + 37)) → x_ag g ge (fun j => vA h (v0 + 37) j + vA h (v0 + 38) j) → 0 ≤ k → k ≤ to → (∀ j, k ≤ j → j < to → x_ck g (sto j)) → qi (f_Mod_addReplacement_7 N m v0 q k h) (fun r => r_K L π v0 h0 r O S H A (W ++ x_rx S st t gb ge (x_sl sto k to)) ∧ r_V v0 h r) := by
  intro m
  induction m with
  | zero => intro k W h K _ _ _ _ _ _ _ _ _ r e; rw [f_Mod_addReplacement_7] at e; cases e
  | succ m ih =>
    intro k W h K e11 e28 e56 e57 gB gE k0 kt CK
    obtain ⟨⟨⟨T, M⟩, -⟩, -⟩ := id K
    rw [f_Mod_addReplacement_7]
    refine l_gR T (d_Mo_16 M) (l_aI (e := to) (fun _ => e11) (fun _ => ?_))
    refine qi_if (fun c => ?_) (fun c => ?_)
    · rw [x_sl_0 c k0 (by lia)]
      show qi (some h) (fun r => r_K L π v0 h0 r O S H A (W ++ []) ∧ r_V v0 h r)
      rw [List.append_nil]
      exact qi_some ⟨K, r_V_r⟩
    · have cl := Int32.not_le.mp c
      have NX : ∀ (X : List Int32) (h1 : z_H), x_cx S st t gb ge (sto k) = X → r_K L π v0 h0 h1 O S H A (W ++ X) ∧ r_V v0 h h1 → qi (f_Mod_addReplacement_7 N m v0 q (k + 1) h1) (fun r => r_K L π v0 h0 r O S H A (W ++ x_rx S st t gb ge (x_sl sto k to)) ∧ r_V v0 h r) := by
        intro X h1 eX ⟨K1, V1⟩
        refine qi_mono (ih (k + 1) _ h1 K1 (by rw [x_vA_c (V1.1 _ (by omega) (by omega)), e11]) (by rw [x_vA_c (V1.1 _ (by omega) (by omega)), e28]) (by rw [V1.2 56 (by decide), e56]) (by rw [V1.2 57 (by decide), e57]) (by rw [x_vA_c (V1.1 _ (by omega) (by omega))]; exact gB) (by rw [x_vA_c (V1.1 (v0 + 37) (by omega) (by omega)), x_vA_c (V1.1 (v0 + 38) (by omega) (by omega))]; exact gE) (by lia) (by lia) (fun j j0 j1 => CK j (by lia) j1)) ?_
        rintro r ⟨K2, V2⟩
        rw [x_sl_1 cl k0, x_rx_c, eX, ← List.append_assoc]
        exact ⟨K2, r_V_t V1 V2⟩
      have ck := CK k (Int32.le_refl _) cl
      refine l_gR T (d_Mo_33 M) (l_aI (e := sto k) (fun _ => by rw [e28]) (fun _ => ?_))
      refine qi_if (fun c1 => ?_) (fun c1 => ?_)
      · refine qi_if (fun c2 => ?_) (fun c2 => ?_)
        · refine l_gI (e := st) e56 (l_gI (e := t) e57 (l_gO (qi_b (r_co (N := N) K st0 stt gk.1.2) ?_)))
          intro h1 p
          refine qi_bs (NX _ h1 ?_ p)
          unfold x_cx
          rw [if_neg (by rw [c2]; decide), if_pos c2]
        · have b : 201 ≤ sto k ∧ sto k ≤ 200 + g := by
            rcases ck with ck | ck | ck
            · exact absurd ck.1 (Int32.not_lt.mpr c1)
            · exact absurd ck c2
            · exact ck
          have b1 := b.1
          have b2 := b.2
          have j1 : 1 ≤ sto k - 200 := by lia
          have jg : sto k - 200 ≤ g := by lia
          have x1 := gk.2.1 _ j1 jg
          have x2 := gk.2.2 _ j1 jg
          have y1 := gB _ j1 jg
          have y2 := gE _ j1 jg
          dsimp only at y2
          refine l_gR T (d_Mo_52 M) (l_aI (e := gb (sto k - 200)) (fun _ => y1.symm) (fun _ => l_gR T (d_Mo_52 M) (l_aI (e := vA h (v0 + 37) (sto k - 200)) (fun _ => rfl) (fun _ => l_gR T (d_Mo_53 M) (l_aI (e := vA h (v0 + 38) (sto k - 200)) (fun _ => rfl) (fun _ => ?_))))))
          rw [← y2]
          refine l_gO (qi_b (r_co (N := N) K x1.1 x2.1 (Int32.le_trans x2.2 gk.1.2)) ?_)
          intro h1 p
          refine qi_bs (NX _ h1 ?_ p)
          unfold x_cx
          rw [if_neg (Int32.not_lt.mpr c1), if_neg c2]
      · have kc : x_kc (sto k) := by
          rcases ck with ck | ck | ck
          · exact ck.2
          · exact absurd (by rw [ck]; decide) c1
          · exact absurd (Int32.le_trans (by decide) ck.1) c1
        refine l_gO (qi_b (r_ad (N := N) K kc) ?_)
        intro h1 p
        refine qi_bs (NX _ h1 ?_ p)
        unfold x_cx
        rw [if_pos (Int32.not_le.mp c1)]
theorem r_aR {q fr to g st t : Int32} {gb ge : Int32 → Int32} (K : r_K L π v0 h0 h O S H A W) (hf : vA h (v0 + 10) q = fr) (ht : vA h (v0 + 11) q = to) (f0 : 0 ≤ fr) (ft : fr ≤ to) (to6 : to ≤ 600) (g3 : g ≤ 3) (gk : x_gk (x_nl8 S) g g gb ge t) (st0 : 0 ≤ st) (stt : st ≤ t) (e56 : vI h v0 56 = st) (e57 : vI h v0 57 = t) (gB : x_ag g gb (vA h (v0 + 37))) (gE : x_ag g ge (fun j => vA h (v0 + 37) j + vA h (v0 + 38) j)) (CK : ∀ j, fr ≤ j → j < to → x_ck g (vA h (v0 + 28) j)) : qi (f_Mod_addReplacement N v0 q h) (fun r => r_K L π v0 h0 r O S H A (W ++ x_rx S st t gb ge (x_sl (vA h (v0 + 28)) fr to)) ∧ r_V v0 h r) := by
  obtain ⟨⟨⟨T, M⟩, -⟩, -⟩ := id K
  unfold f_Mod_addReplacement
  refine l_gR T (d_Mo_15 M) (l_aI (e := fr) (fun _ => hf) (fun _ => ?_))
  exact r_aR7 (N := N) to6 g3 gk st0 stt N fr W h K ht rfl e56 e57 gB gE f0 ft CK
end S2
