/-! THE CLASS AS A WHOLE: strands, images -/
section C34
variable {h H : ex_Hp} {X : Option Value → ex_Hp → Prop} {ρ ι : Nat → Option Nat} {N v p lo a : Nat} {F : Nat → Int32} {S : Nat → Nat → Nat} {I : Nat → Option cSt}
theorem l_st35 {k b : Nat} (hC : CX ρ ι N F v p lo S I h) (k1 : 1 ≤ k) (k2 : k ≤ 5) (hb : ρ k = some b) (hX : ∀ H, H.1 = h.1 → H.2.1 = h.2.1 → chC h H → CX ρ ι N F k p lo (fun _ _ => 0) I H → X (some (.int (nI (tC k)))) H) : ex_W 61 35 [.ref 1, .int (nI k)] [] h X := by
  obtain ⟨a, fc, w', fp, ha, hD, hpl, g1, g42, g43, g44, hfp, g45, ga, ga1, ga4, hfc, ga5, gp, gq⟩ := hC.get
  have h1 := hC.2.1.1.1
  have h2 := hC.2.1.1.2
  obtain ⟨_, ⟨hp, hp2, hpr⟩, hlo, hok⟩ := hC.2.1
  try dsimp only at h1 h2 hp hp2 hpr hlo hok
  have hTc := tC_le h1 h2
  have g4 := hC.2.2.2.2.2.1
  obtain ⟨s1, s2, s3, s5, s6⟩ := hC.stt ha
  have hS2 : STT 42 b p lo S (ex_set h 42 (cO 4 [.ref b, .ref 43, .ref 45])) := by
    obtain ⟨fp', s31, s32⟩ := s3
    refine ⟨g_set, (g_ne (by decide)).trans s2, ⟨fp', (g_ne (by decide)).trans s31, s32⟩, (g_ne (by decide)).trans s5, fun i hi => ?_⟩
    obtain ⟨f', b1, b2⟩ := s6 i hi
    exact ⟨f', (g_ne (by omega)).trans b1, b2⟩
  simp only [s61_0, s61_1, s61_2, s61_3, s61_6, s61_9, s61_11, s61_12, s61_13, s61_16, s61_17, s61_18, s61_18n, s61_21, s61_22, s61_25, s61_26, s61_29, s61_30, s61_31, s61_34, s61_35, s61_36, s61_39, s61_40, s61_43, s61_44, s61_45, s61_48, s61_49, s61_52, s61_55, s61_56, s61_59, s61_62, s61_65, s61_68, is_O, opt_s, opt_n, cat_0, cat_i, cat_r, true_and, Nat.zero_le, Nat.reduceAdd, Nat.reduceLeDiff, al_I, as_I, rl_R, ln_I, ln_R, nI_add, pk_mul, g_set, set_set, not_false_eq_true, gf0_0, gf0_1, gf0_2, gf1_0, gf1_1, gf1_2, gf1_3, gf1_4, gf1_5, gf1_6, gf1_7, gf1_8, gf1_9, gf1_10, gf1_11, gf2_0, gf2_1, gf2_2, gf3_0, gf3_1, gf4_0, gf4_1, gf4_2, gf5_0, gf5_1, gf5_2, gf5_3, gf6_0, gf6_1, gf6_2, gf6_3, gf6_4, gf6_5, gf6_6, gf7_0, gf7_1, gf7_2, gf7_3, gf7_4, gf7_5, pf0_0, pf0_1, pf0_2, pf1_0, pf1_1, pf1_2, pf1_3, pf1_4, pf1_5, pf1_6, pf1_7, pf1_8, pf1_9, pf1_10, pf1_11, pf2_0, pf2_1, pf2_2, pf3_0, pf3_1, pf4_0, pf4_1, pf4_2, pf5_0, pf5_1, pf5_2, pf5_3, pf6_0, pf6_1, pf6_2, pf6_3, pf6_4, pf6_5, pf6_6, pf7_0, pf7_1, pf7_2, pf7_3, pf7_4, pf7_5, g1, g42, g4, xi_n (show k < 6 by omega) (show 6 < 2147483648 by decide), vr_s hb, g_ne (show ¬ 1 = 42 by decide)]
  refine m_clearSums hS2 (fun K kc kS => ?_)
  obtain ⟨e1, e2⟩ := hC.st (H := K) (w := k) (p' := p) (lo' := lo) (S' := fun _ _ => 0) hb ⟨⟨k1, k2⟩, ⟨hp, hp2, hpr⟩, hlo, fun s hs d => ⟨by show 0 < p; omega, fun _ => rfl⟩⟩ kS ⟨kc.1, kc.2.1, fun q hq => by rw [kc.2.2 q (by omega), g_ne (by omega)]⟩
  obtain ⟨a', fc', w2', fp', ha', hD', hpl', g1', g42', g43', g44', hfp', g45', ga', ga1', _⟩ := e1.get
  simp only [s61_0, s61_1, s61_2, s61_3, s61_6, s61_9, s61_11, s61_12, s61_13, s61_16, s61_17, s61_18, s61_18n, s61_21, s61_22, s61_25, s61_26, s61_29, s61_30, s61_31, s61_34, s61_35, s61_36, s61_39, s61_40, s61_43, s61_44, s61_45, s61_48, s61_49, s61_52, s61_55, s61_56, s61_59, s61_62, s61_65, s61_68, is_O, opt_s, opt_n, cat_0, cat_i, cat_r, true_and, Nat.zero_le, Nat.reduceAdd, Nat.reduceLeDiff, al_I, as_I, rl_R, ln_I, ln_R, nI_add, pk_mul, g_set, set_set, not_false_eq_true, gf0_0, gf0_1, gf0_2, gf1_0, gf1_1, gf1_2, gf1_3, gf1_4, gf1_5, gf1_6, gf1_7, gf1_8, gf1_9, gf1_10, gf1_11, gf2_0, gf2_1, gf2_2, gf3_0, gf3_1, gf4_0, gf4_1, gf4_2, gf5_0, gf5_1, gf5_2, gf5_3, gf6_0, gf6_1, gf6_2, gf6_3, gf6_4, gf6_5, gf6_6, gf7_0, gf7_1, gf7_2, gf7_3, gf7_4, gf7_5, pf0_0, pf0_1, pf0_2, pf1_0, pf1_1, pf1_2, pf1_3, pf1_4, pf1_5, pf1_6, pf1_7, pf1_8, pf1_9, pf1_10, pf1_11, pf2_0, pf2_1, pf2_2, pf3_0, pf3_1, pf4_0, pf4_1, pf4_2, pf5_0, pf5_1, pf5_2, pf5_3, pf6_0, pf6_1, pf6_2, pf6_3, pf6_4, pf6_5, pf6_6, pf7_0, pf7_1, pf7_2, pf7_3, pf7_4, pf7_5, g1', g42', ga', ga1']
  exact hX K kc.1 kc.2.1 e2 e1
/-- one more shape -/
theorem CX.shape {k : Nat} (hC : CX ρ ι N F v p lo S I h) (k1 : 1 ≤ k) (k2 : k ≤ 5) (hk : ρ k = none) (hH : H.1 = h.1 + eO k + 9) (hq : ∀ q, q < h.1 → ¬ q = 4 → ex_g H q = ex_g h q) (h4 : ex_g H 4 = some (cR 3 6 (va_up ρ k (some h.1)))) (hN : DG k h.1 H) : CX (va_up ρ k (some h.1)) ι N F v p lo S I H := by
  obtain ⟨c1, c2, ⟨a, c3, b1, b2, b3, b4, ⟨⟨e1, b5⟩, ⟨e2, b6⟩, ⟨e3, b7⟩⟩, ⟨d, r, n, b8⟩, ⟨T, b9⟩⟩, w0, w1, w2, w3, w4, w5, w6⟩ := hC
  have hne : ∀ w b, ρ w = some b → va_up ρ k (some h.1) w = some b := fun w b hw => by
    unfold va_up
    rw [if_neg (fun z => by rw [z, hk] at hw; cases hw)]
    exact hw
  have hback : ∀ w b, va_up ρ k (some h.1) w = some b → (w = k ∧ b = h.1) ∨ (¬ w = k ∧ ρ w = some b) := fun w b hw => by
    unfold va_up at hw
    by_cases e : w = k
    · rw [if_pos e] at hw
      cases hw
      exact Or.inl ⟨e, rfl⟩
    · rw [if_neg e] at hw
      exact Or.inr ⟨e, hw⟩
  refine ⟨c1, c2, ⟨a, hne v a c3, (hq _ (by omega) (by omega)).trans b1, (hq _ (by omega) (by omega)).trans b2, b3.fr (fun q z1 z2 => hq q (by omega) (by omega)), (hq _ (by omega) (by omega)).trans b4, ⟨⟨e1, (hq _ (by omega) (by omega)).trans b5⟩, ⟨e2, (hq _ (by omega) (by omega)).trans b6⟩, ⟨e3, (hq _ (by omega) (by omega)).trans b7⟩⟩, ⟨d, r, n, (hq _ (by omega) (by omega)).trans b8⟩, ⟨T, b9.fr (fun q z1 z2 => hq q (by omega) (by omega))⟩⟩, by omega, (hq _ (by omega) (by omega)).trans w1, h4, (hq _ (by omega) (by omega)).trans w3, ⟨fun w b u1 u2 hb => ?_, fun w w' b b' u1 u2 u3 u4 u5 hb hb' => ?_⟩, ⟨fun j hj => ?_, w6⟩⟩
  · rcases hback w b hb with ⟨y1, y2⟩ | ⟨y1, y2⟩
    · subst y1
      subst y2
      exact ⟨hN, Or.inr w0, by omega⟩
    · obtain ⟨z1, z2, z3⟩ := w4.1 w b u1 u2 y2
      exact ⟨z1.fr u1 u2 (fun q q1 q2 => hq q (by omega) (by omega)), z2, by omega⟩
  · rcases hback w b hb with ⟨y1, y2⟩ | ⟨y1, y2⟩
    · rcases hback w' b' hb' with ⟨y3, y4⟩ | ⟨y3, y4⟩
      · omega
      · obtain ⟨z1, z2, z3⟩ := w4.1 w' b' u3 u4 y4
        omega
    · rcases hback w' b' hb' with ⟨y3, y4⟩ | ⟨y3, y4⟩
      · obtain ⟨z1, z2, z3⟩ := w4.1 w b u1 u2 y2
        omega
      · exact w4.2 w w' b b' u1 u2 u3 u4 u5 y2 y4
  · rcases w5 j hj with z | ⟨z, s, z1, z2, i1, i2, i3, ⟨b, i4, i5⟩, i6⟩
    · exact Or.inl z
    · refine Or.inr ⟨z, s, z1, z2, i1, i2, by omega, ⟨b, hne _ b i4, i5.fr (fun q q1 q2 => hq q (by omega) (by omega))⟩, fun w b' u1 u2 hb' => ?_⟩
      rcases hback w b' hb' with ⟨y1, y2⟩ | ⟨y1, y2⟩
      · omega
      · exact i6 w b' u1 u2 y2
theorem x_strands {x : Int32} (hC : CX ρ ι N F v p lo S I h) (hX1 : isW 1 5 x → ∀ H, chC h H → CI N F (ix x) p lo (fun _ _ => 0) I H → X (some (.int (nI (tC (ix x))))) H) (hX2 : ¬ isW 1 5 x → X (some (.int (-2))) h) : ex_W 61 0 [.ref 1, .int x] [] h X := by
  obtain ⟨a, fc, w', fp, ha, hD, hpl, g1, g42, g43, g44, hfp, g45, ga, ga1, ga4, hfc, ga5, gp, gq⟩ := hC.get
  have h1 := hC.2.1.1.1
  have h2 := hC.2.1.1.2
  obtain ⟨_, ⟨hp, hp2, hpr⟩, hlo, hok⟩ := hC.2.1
  try dsimp only at h1 h2 hp hp2 hpr hlo hok
  have hTc := tC_le h1 h2
  have g4 := hC.2.2.2.2.2.1
  have w0 := hC.2.2.2.1
  by_cases hx : isW 1 5 x
  · obtain ⟨q1, q2, q3⟩ := isW_e (by decide) (by decide) hx
    have hX := hX1 hx
    simp only [s61_0, s61_1, s61_2, s61_3, s61_6, s61_9, s61_11, s61_12, s61_13, s61_16, s61_17, s61_18, s61_18n, s61_21, s61_22, s61_25, s61_26, s61_29, s61_30, s61_31, s61_34, s61_36, s61_39, s61_40, s61_43, s61_44, s61_45, s61_48, s61_49, s61_52, s61_55, s61_56, s61_59, s61_62, s61_65, s61_68, is_O, opt_s, opt_n, cat_0, cat_i, cat_r, true_and, Nat.zero_le, Nat.reduceAdd, Nat.reduceLeDiff, al_I, as_I, rl_R, ln_I, ln_R, nI_add, pk_mul, g_set, set_set, not_false_eq_true, gf0_0, gf0_1, gf0_2, gf1_0, gf1_1, gf1_2, gf1_3, gf1_4, gf1_5, gf1_6, gf1_7, gf1_8, gf1_9, gf1_10, gf1_11, gf2_0, gf2_1, gf2_2, gf3_0, gf3_1, gf4_0, gf4_1, gf4_2, gf5_0, gf5_1, gf5_2, gf5_3, gf6_0, gf6_1, gf6_2, gf6_3, gf6_4, gf6_5, gf6_6, gf7_0, gf7_1, gf7_2, gf7_3, gf7_4, gf7_5, pf0_0, pf0_1, pf0_2, pf1_0, pf1_1, pf1_2, pf1_3, pf1_4, pf1_5, pf1_6, pf1_7, pf1_8, pf1_9, pf1_10, pf1_11, pf2_0, pf2_1, pf2_2, pf3_0, pf3_1, pf4_0, pf4_1, pf4_2, pf5_0, pf5_1, pf5_2, pf5_3, pf6_0, pf6_1, pf6_2, pf6_3, pf6_4, pf6_5, pf6_6, pf7_0, pf7_1, pf7_2, pf7_3, pf7_4, pf7_5, m_inW, if_pos hx, i10, i10n, not_true_eq_false, if_false, if_true, g1, g4]
    rw [← q3]
    simp only [xi_n (show ix x < 6 by omega) (show 6 < 2147483648 by decide)]
    cases hb : ρ (ix x) with
    | some b =>
      simp only [va_rf, s61_0, s61_1, s61_2, s61_3, s61_6, s61_9, s61_11, s61_12, s61_13, s61_16, s61_17, s61_18, s61_18n, s61_21, s61_22, s61_25, s61_26, s61_29, s61_30, s61_31, s61_34, s61_36, s61_39, s61_40, s61_43, s61_44, s61_45, s61_48, s61_49, s61_52, s61_55, s61_56, s61_59, s61_62, s61_65, s61_68, is_O, opt_s, opt_n, cat_0, cat_i, cat_r, true_and, Nat.zero_le, Nat.reduceAdd, Nat.reduceLeDiff, al_I, as_I, rl_R, ln_I, ln_R, nI_add, pk_mul, g_set, set_set, not_false_eq_true, gf0_0, gf0_1, gf0_2, gf1_0, gf1_1, gf1_2, gf1_3, gf1_4, gf1_5, gf1_6, gf1_7, gf1_8, gf1_9, gf1_10, gf1_11, gf2_0, gf2_1, gf2_2, gf3_0, gf3_1, gf4_0, gf4_1, gf4_2, gf5_0, gf5_1, gf5_2, gf5_3, gf6_0, gf6_1, gf6_2, gf6_3, gf6_4, gf6_5, gf6_6, gf7_0, gf7_1, gf7_2, gf7_3, gf7_4, gf7_5, pf0_0, pf0_1, pf0_2, pf1_0, pf1_1, pf1_2, pf1_3, pf1_4, pf1_5, pf1_6, pf1_7, pf1_8, pf1_9, pf1_10, pf1_11, pf2_0, pf2_1, pf2_2, pf3_0, pf3_1, pf4_0, pf4_1, pf4_2, pf5_0, pf5_1, pf5_2, pf5_3, pf6_0, pf6_1, pf6_2, pf6_3, pf6_4, pf6_5, pf6_6, pf7_0, pf7_1, pf7_2, pf7_3, pf7_4, pf7_5]
      exact l_st35 hC q1 q2 hb (fun K _ _ k1 k2 => hX K k1 ⟨ρ, ι, k2⟩)
    | none =>
      have hgn : ∀ q, q < h.1 → ex_g (ex_new h (cO 1 (ex_dfl 1)) 12) q = ex_g h q := fun q hq => g_nl hq
      simp only [va_rf, s61_0, s61_1, s61_2, s61_3, s61_6, s61_9, s61_11, s61_12, s61_13, s61_16, s61_17, s61_18, s61_18n, s61_21, s61_22, s61_25, s61_26, s61_29, s61_30, s61_31, s61_34, s61_36, s61_39, s61_40, s61_43, s61_44, s61_45, s61_48, s61_49, s61_52, s61_55, s61_56, s61_59, s61_62, s61_65, s61_68, is_O, opt_s, opt_n, cat_0, cat_i, cat_r, true_and, Nat.zero_le, Nat.reduceAdd, Nat.reduceLeDiff, al_I, as_I, rl_R, ln_I, ln_R, nI_add, pk_mul, g_set, set_set, not_false_eq_true, gf0_0, gf0_1, gf0_2, gf1_0, gf1_1, gf1_2, gf1_3, gf1_4, gf1_5, gf1_6, gf1_7, gf1_8, gf1_9, gf1_10, gf1_11, gf2_0, gf2_1, gf2_2, gf3_0, gf3_1, gf4_0, gf4_1, gf4_2, gf5_0, gf5_1, gf5_2, gf5_3, gf6_0, gf6_1, gf6_2, gf6_3, gf6_4, gf6_5, gf6_6, gf7_0, gf7_1, gf7_2, gf7_3, gf7_4, gf7_5, pf0_0, pf0_1, pf0_2, pf1_0, pf1_1, pf1_2, pf1_3, pf1_4, pf1_5, pf1_6, pf1_7, pf1_8, pf1_9, pf1_10, pf1_11, pf2_0, pf2_1, pf2_2, pf3_0, pf3_1, pf4_0, pf4_1, pf4_2, pf5_0, pf5_1, pf5_2, pf5_3, pf6_0, pf6_1, pf6_2, pf6_3, pf6_4, pf6_5, pf6_6, pf7_0, pf7_1, pf7_2, pf7_3, pf7_4, pf7_5, g1, g4]
      refine m_Diagrams (a := h.1) q1 q2 rfl g_new (fun K k1 k2 k3 k4 => ?_)
      have o1 : ex_g K h.1 = _ := k4.1.1
      have o4 : ex_g K 4 = some (cR 3 6 ρ) := (k3 4 (by omega)).trans ((hgn 4 (by omega)).trans g4)
      simp only [s61_0, s61_1, s61_2, s61_3, s61_6, s61_9, s61_11, s61_12, s61_13, s61_16, s61_17, s61_18, s61_18n, s61_21, s61_22, s61_25, s61_26, s61_29, s61_30, s61_31, s61_34, s61_36, s61_39, s61_40, s61_43, s61_44, s61_45, s61_48, s61_49, s61_52, s61_55, s61_56, s61_59, s61_62, s61_65, s61_68, is_O, opt_s, opt_n, cat_0, cat_i, cat_r, true_and, Nat.zero_le, Nat.reduceAdd, Nat.reduceLeDiff, al_I, as_I, rl_R, ln_I, ln_R, nI_add, pk_mul, g_set, set_set, not_false_eq_true, gf0_0, gf0_1, gf0_2, gf1_0, gf1_1, gf1_2, gf1_3, gf1_4, gf1_5, gf1_6, gf1_7, gf1_8, gf1_9, gf1_10, gf1_11, gf2_0, gf2_1, gf2_2, gf3_0, gf3_1, gf4_0, gf4_1, gf4_2, gf5_0, gf5_1, gf5_2, gf5_3, gf6_0, gf6_1, gf6_2, gf6_3, gf6_4, gf6_5, gf6_6, gf7_0, gf7_1, gf7_2, gf7_3, gf7_4, gf7_5, pf0_0, pf0_1, pf0_2, pf1_0, pf1_1, pf1_2, pf1_3, pf1_4, pf1_5, pf1_6, pf1_7, pf1_8, pf1_9, pf1_10, pf1_11, pf2_0, pf2_1, pf2_2, pf3_0, pf3_1, pf4_0, pf4_1, pf4_2, pf5_0, pf5_1, pf5_2, pf5_3, pf6_0, pf6_1, pf6_2, pf6_3, pf6_4, pf6_5, pf6_6, pf7_0, pf7_1, pf7_2, pf7_3, pf7_4, pf7_5, o4, o1]
      rw [rs_R (by rfl)]
      simp only [xi_n (show ix x < 6 by omega) (show 6 < 2147483648 by decide)]
      have hC2 := hC.shape (H := ex_set K 4 (cR 3 6 (va_up ρ (ix x) (some h.1)))) q1 q2 hb k1 (fun q z1 z2 => (g_ne z2).trans ((k3 q z1).trans (hgn q z1))) g_set (k4.fr q1 q2 (fun q z1 z2 => g_ne (by omega)))
      have hle := eO_le q1 q2
      replace k2 : K.2.1 ≤ h.2.1 + 12 + 7000 := k2
      refine l_st35 hC2 q1 q2 (va_up_self _ _ _) (fun G d1 d2 e1 e2 => hX G ⟨fun q hq => ?_, ?_, ?_, ?_⟩ ⟨_, ι, e2⟩)
      · rw [e1.1 q hq, g_ne (by omega), k3 q (by omega), hgn q (by omega)]
      · rw [d1, set_1, k1]
        omega
      · rw [d1, set_1, k1]
        omega
      · rw [d2, set_2]
        omega
  · have hX := hX2 hx
    simp only [s61_0, s61_1, s61_2, s61_3, s61_6, s61_9, s61_11, s61_12, s61_13, s61_16, s61_17, s61_18, s61_18n, s61_21, s61_22, s61_25, s61_26, s61_29, s61_30, s61_31, s61_34, s61_36, s61_39, s61_40, s61_43, s61_44, s61_45, s61_48, s61_49, s61_52, s61_55, s61_56, s61_59, s61_62, s61_65, s61_68, is_O, opt_s, opt_n, cat_0, cat_i, cat_r, true_and, Nat.zero_le, Nat.reduceAdd, Nat.reduceLeDiff, al_I, as_I, rl_R, ln_I, ln_R, nI_add, pk_mul, g_set, set_set, not_false_eq_true, gf0_0, gf0_1, gf0_2, gf1_0, gf1_1, gf1_2, gf1_3, gf1_4, gf1_5, gf1_6, gf1_7, gf1_8, gf1_9, gf1_10, gf1_11, gf2_0, gf2_1, gf2_2, gf3_0, gf3_1, gf4_0, gf4_1, gf4_2, gf5_0, gf5_1, gf5_2, gf5_3, gf6_0, gf6_1, gf6_2, gf6_3, gf6_4, gf6_5, gf6_6, gf7_0, gf7_1, gf7_2, gf7_3, gf7_4, gf7_5, pf0_0, pf0_1, pf0_2, pf1_0, pf1_1, pf1_2, pf1_3, pf1_4, pf1_5, pf1_6, pf1_7, pf1_8, pf1_9, pf1_10, pf1_11, pf2_0, pf2_1, pf2_2, pf3_0, pf3_1, pf4_0, pf4_1, pf4_2, pf5_0, pf5_1, pf5_2, pf5_3, pf6_0, pf6_1, pf6_2, pf6_3, pf6_4, pf6_5, pf6_6, pf7_0, pf7_1, pf7_2, pf7_3, pf7_4, pf7_5, m_inW, if_neg hx, i10, i10n, not_true_eq_false, if_false, if_true]
    exact hX
end C34
