/-! THE CLASS AS A WHOLE: images -/
section C35
variable {h H : ex_Hp} {X : Option Value → ex_Hp → Prop} {ρ ι : Nat → Option Nat} {N v p lo a : Nat} {F : Nat → Int32} {S : Nat → Nat → Nat} {I : Nat → Option cSt}
theorem va_up2 {α : Type} {f : Nat → α} {k : Nat} {x y : α} : va_up (va_up f k x) k y = va_up f k y := by
  funext j
  unfold va_up
  by_cases e : j = k
  · rw [if_pos e, if_pos e]
  · rw [if_neg e, if_neg e, if_neg e]
theorem okSt0 (h1 : 1 ≤ v) (h2 : v ≤ 5) : okSt (v, 97, 2, fun _ _ => 0) := ⟨⟨h1, h2⟩, ⟨show 2 ≤ 97 by decide, show 97 ≤ 101 by decide, show prT 97 = true by decide +kernel⟩, show 2 < 97 by decide, fun s hs d => ⟨by show 0 < 97; decide, fun _ => rfl⟩⟩
/-- an image is written anew -/
theorem CX.img {k s b : Nat} {z : cSt} (hC : CX ρ ι N F v p lo S I h) (hk : k < 2) (hs : ι k = some s) (hz : okSt z) (hb : ρ z.1 = some b) (hS : STT s b z.2.1 z.2.2.1 z.2.2.2 H) (hc : chA s h H) : CX ρ ι N F v p lo S (va_up I k (some z)) H ∧ chC h H := by
  obtain ⟨c1, c2, ⟨a, c3, b1, b2, b3, b4, ⟨⟨e1, b5⟩, ⟨e2, b6⟩, ⟨e3, b7⟩⟩, ⟨d, r, n, b8⟩, ⟨T, b9⟩⟩, w0, w1, w2, w3, w4, w5, w6⟩ := hC
  have hIk : ∃ z0, I k = some z0 ∧ IMG ρ s z0 h := by
    rcases w5 k hk with ⟨_, z2⟩ | ⟨z0, s0, z1, z2, z3⟩
    · rw [hs] at z2; cases z2
    · rw [hs] at z2
      cases z2
      exact ⟨z0, z1, z3⟩
  obtain ⟨z0, _, i1, i2, i3, _, i6⟩ := hIk
  have hq : ∀ q, q < s ∨ s + 9 ≤ q → ex_g H q = ex_g h q := hc.2.2
  have hH : H.1 = h.1 := hc.1
  refine ⟨⟨c1, c2, ⟨a, c3, (hq _ (by omega)).trans b1, (hq _ (by omega)).trans b2, b3.fr (fun q z1 z2 => hq q (by omega)), (hq _ (by omega)).trans b4, ⟨⟨e1, (hq _ (by omega)).trans b5⟩, ⟨e2, (hq _ (by omega)).trans b6⟩, ⟨e3, (hq _ (by omega)).trans b7⟩⟩, ⟨d, r, n, (hq _ (by omega)).trans b8⟩, ⟨T, b9.fr (fun q z1 z2 => hq q (by omega))⟩⟩, by omega, (hq _ (by omega)).trans w1, (hq _ (by omega)).trans w2, (hq _ (by omega)).trans w3, ⟨fun w b u1 u2 hb => ?_, w4.2⟩, ⟨fun j hj => ?_, w6⟩⟩, chC.same hc.1 hc.2.1 (fun q z => hq q (by omega))⟩
  · obtain ⟨z1, z2, z3⟩ := w4.1 w b u1 u2 hb
    have := i6 w b u1 u2 hb
    exact ⟨z1.fr u1 u2 (fun q q1 q2 => hq q (by omega)), z2, by omega⟩
  · by_cases e : j = k
    · subst e
      exact Or.inr ⟨z, s, va_up_self _ _ _, hs, hz, i2, by omega, ⟨b, hb, hS⟩, i6⟩
    · rw [va_up_ne _ _ e]
      rcases w5 j hj with y | ⟨y, t, y1, y2, y3⟩
      · exact Or.inl y
      · have := w6 j k t s hj hk e y2 hs
        exact Or.inr ⟨y, t, y1, y2, y3.fr (by omega) (fun q q1 q2 => hq q (by omega))⟩
/-- one more image -/
theorem CX.img0 {k b : Nat} {z : cSt} (hC : CX ρ ι N F v p lo S I h) (hk : k < 2) (hs : ι k = none) (hz : okSt z) (hb : ρ z.1 = some b) (hS : STT h.1 b z.2.1 z.2.2.1 z.2.2.2 H) (hH : H.1 = h.1 + 9) (hq : ∀ q, q < h.1 → ¬ q = 51 → ex_g H q = ex_g h q) (h51 : ex_g H 51 = some (cR 4 2 (va_up ι k (some h.1)))) : CX ρ (va_up ι k (some h.1)) N F v p lo S (va_up I k (some z)) H := by
  obtain ⟨c1, c2, ⟨a, c3, b1, b2, b3, b4, ⟨⟨e1, b5⟩, ⟨e2, b6⟩, ⟨e3, b7⟩⟩, ⟨d, r, n, b8⟩, ⟨T, b9⟩⟩, w0, w1, w2, w3, w4, w5, w6⟩ := hC
  refine ⟨c1, c2, ⟨a, c3, (hq _ (by omega) (by omega)).trans b1, (hq _ (by omega) (by omega)).trans b2, b3.fr (fun q z1 z2 => hq q (by omega) (by omega)), (hq _ (by omega) (by omega)).trans b4, ⟨⟨e1, (hq _ (by omega) (by omega)).trans b5⟩, ⟨e2, (hq _ (by omega) (by omega)).trans b6⟩, ⟨e3, (hq _ (by omega) (by omega)).trans b7⟩⟩, ⟨d, r, n, (hq _ (by omega) (by omega)).trans b8⟩, ⟨T, b9.fr (fun q z1 z2 => hq q (by omega) (by omega))⟩⟩, by omega, (hq _ (by omega) (by omega)).trans w1, (hq _ (by omega) (by omega)).trans w2, h51, ⟨fun w b u1 u2 hb => ?_, w4.2⟩, ⟨fun j hj => ?_, fun j j' t t' u1 u2 u3 y1 y2 => ?_⟩⟩
  · obtain ⟨z1, z2, z3⟩ := w4.1 w b u1 u2 hb
    have hlow : b = 5 ∧ b + eO w + 9 = 42 ∨ 86 ≤ b := by
      rcases z2 with ⟨e1, e2⟩ | e2
      · subst e2
        have := eO_3
        omega
      · exact Or.inr e2
    exact ⟨z1.fr u1 u2 (fun q q1 q2 => hq q (by omega) (by omega)), z2, by omega⟩
  · by_cases e : j = k
    · subst e
      refine Or.inr ⟨z, h.1, va_up_self _ _ _, va_up_self _ _ _, hz, w0, by omega, ⟨b, hb, hS⟩, fun w b' u1 u2 hb' => ?_⟩
      have := (w4.1 w b' u1 u2 hb').2.2
      omega
    · rw [va_up_ne _ _ e, va_up_ne _ _ e]
      rcases w5 j hj with y | ⟨y, t, y1, y2, y3⟩
      · exact Or.inl y
      · have l1 := y3.2.1
        have l2 := y3.2.2.1
        exact Or.inr ⟨y, t, y1, y2, y3.fr (by omega) (fun q q1 q2 => hq q (by omega) (by omega))⟩
  · have hlt : ∀ i t, i < 2 → ι i = some t → t + 9 ≤ h.1 := fun i t hi ht => by
      rcases w5 i hi with ⟨_, y⟩ | ⟨y, t', y1, y2, y3⟩
      · rw [ht] at y; cases y
      · rw [ht] at y2
        cases y2
        exact y3.2.2.1
    unfold va_up at y1 y2
    by_cases f1 : j = k
    · rw [if_pos f1] at y1
      rw [if_neg (by omega)] at y2
      cases y1
      have := hlt j' t' u2 y2
      omega
    · rw [if_neg f1] at y1
      have := hlt j t u1 y1
      by_cases f2 : j' = k
      · rw [if_pos f2] at y2
        cases y2
        omega
      · rw [if_neg f2] at y2
        exact w6 j j' t t' u1 u2 u3 y1 y2
theorem l_im41 {k s : Nat} (hC : CX ρ ι N F v p lo S I h) (hk : k < 2) (hs : ι k = some s) (hX : ∀ H, H.1 = h.1 → H.2.1 = h.2.1 → chC h H → CX ρ ι N F v p lo S (va_up I k (some (v, p, lo, S))) H → X (some (.int (nI 1))) H) : ex_W 82 41 [.ref 1, .int (nI k)] [] h X := by
  obtain ⟨a, fc, w', fp, ha, hD, hpl, g1, g42, g43, g44, hfp, g45, ga, ga1, ga4, hfc, ga5, gp, gq⟩ := hC.get
  have h1 := hC.2.1.1.1
  have h2 := hC.2.1.1.2
  obtain ⟨_, ⟨hp, hp2, hpr⟩, hlo, hok⟩ := hC.2.1
  try dsimp only at h1 h2 hp hp2 hpr hlo hok
  have hTc := tC_le h1 h2
  have g51 := hC.2.2.2.2.2.2.1
  rcases hC.2.2.2.2.2.2.2.2.1 k hk with ⟨_, z2⟩ | ⟨z, s0, z1, z2, i1, i2, i3, ⟨b, i4, i5⟩, i6⟩
  · rw [hs] at z2; cases z2
  rw [hs] at z2
  cases z2
  have gs := i5.1
  simp only [s82_0, s82_1, s82_2, s82_3, s82_6, s82_9, s82_11, s82_12, s82_13, s82_16, s82_17, s82_18, s82_18n, s82_21, s82_22, s82_25, s82_26, s82_29, s82_30, s82_31, s82_34, s82_37, s82_40, s82_41, s82_42, s82_45, s82_46, s82_47, s82_48, s82_51, s82_54, s82_55, is_O, opt_s, opt_n, cat_0, cat_i, cat_r, true_and, Nat.zero_le, Nat.reduceAdd, Nat.reduceLeDiff, al_I, as_I, rl_R, ln_I, ln_R, nI_add, pk_mul, g_set, set_set, not_false_eq_true, gf0_0, gf0_1, gf0_2, gf1_0, gf1_1, gf1_2, gf1_3, gf1_4, gf1_5, gf1_6, gf1_7, gf1_8, gf1_9, gf1_10, gf1_11, gf2_0, gf2_1, gf2_2, gf3_0, gf3_1, gf4_0, gf4_1, gf4_2, gf5_0, gf5_1, gf5_2, gf5_3, gf6_0, gf6_1, gf6_2, gf6_3, gf6_4, gf6_5, gf6_6, gf7_0, gf7_1, gf7_2, gf7_3, gf7_4, gf7_5, pf0_0, pf0_1, pf0_2, pf1_0, pf1_1, pf1_2, pf1_3, pf1_4, pf1_5, pf1_6, pf1_7, pf1_8, pf1_9, pf1_10, pf1_11, pf2_0, pf2_1, pf2_2, pf3_0, pf3_1, pf4_0, pf4_1, pf4_2, pf5_0, pf5_1, pf5_2, pf5_3, pf6_0, pf6_1, pf6_2, pf6_3, pf6_4, pf6_5, pf6_6, pf7_0, pf7_1, pf7_2, pf7_3, pf7_4, pf7_5, g1, g42, g51, xi_n hk (show 2 < 2147483648 by decide), vr_s hs, gs]
  refine m_copyFrom hp hp2 hlo (by omega) i5 (hC.stt ha) (fun K kc kS => ?_)
  obtain ⟨e1, e2⟩ := hC.img (z := (v, p, lo, S)) hk hs hC.2.1 ha kS kc
  simp only [s82_0, s82_1, s82_2, s82_3, s82_6, s82_9, s82_11, s82_12, s82_13, s82_16, s82_17, s82_18, s82_18n, s82_21, s82_22, s82_25, s82_26, s82_29, s82_30, s82_31, s82_34, s82_37, s82_40, s82_41, s82_42, s82_45, s82_46, s82_47, s82_48, s82_51, s82_54, s82_55, is_O, opt_s, opt_n, cat_0, cat_i, cat_r, true_and, Nat.zero_le, Nat.reduceAdd, Nat.reduceLeDiff, al_I, as_I, rl_R, ln_I, ln_R, nI_add, pk_mul, g_set, set_set, not_false_eq_true, gf0_0, gf0_1, gf0_2, gf1_0, gf1_1, gf1_2, gf1_3, gf1_4, gf1_5, gf1_6, gf1_7, gf1_8, gf1_9, gf1_10, gf1_11, gf2_0, gf2_1, gf2_2, gf3_0, gf3_1, gf4_0, gf4_1, gf4_2, gf5_0, gf5_1, gf5_2, gf5_3, gf6_0, gf6_1, gf6_2, gf6_3, gf6_4, gf6_5, gf6_6, gf7_0, gf7_1, gf7_2, gf7_3, gf7_4, gf7_5, pf0_0, pf0_1, pf0_2, pf1_0, pf1_1, pf1_2, pf1_3, pf1_4, pf1_5, pf1_6, pf1_7, pf1_8, pf1_9, pf1_10, pf1_11, pf2_0, pf2_1, pf2_2, pf3_0, pf3_1, pf4_0, pf4_1, pf4_2, pf5_0, pf5_1, pf5_2, pf5_3, pf6_0, pf6_1, pf6_2, pf6_3, pf6_4, pf6_5, pf6_6, pf7_0, pf7_1, pf7_2, pf7_3, pf7_4, pf7_5]
  exact hX K kc.1 kc.2.1 e2 e1
theorem x_image {x : Int32} (hC : CX ρ ι N F v p lo S I h) (hX1 : isW 0 1 x → ∀ H, chC h H → CI N F v p lo S (va_up I (ix x) (some (v, p, lo, S))) H → X (some (.int (nI 1))) H) (hX2 : ¬ isW 0 1 x → X (some (.int (-2))) h) : ex_W 82 0 [.ref 1, .int x] [] h X := by
  obtain ⟨a, fc, w', fp, ha, hD, hpl, g1, g42, g43, g44, hfp, g45, ga, ga1, ga4, hfc, ga5, gp, gq⟩ := hC.get
  have h1 := hC.2.1.1.1
  have h2 := hC.2.1.1.2
  obtain ⟨_, ⟨hp, hp2, hpr⟩, hlo, hok⟩ := hC.2.1
  try dsimp only at h1 h2 hp hp2 hpr hlo hok
  have hTc := tC_le h1 h2
  have g51 := hC.2.2.2.2.2.2.1
  have w0 := hC.2.2.2.1
  by_cases hx : isW 0 1 x
  · obtain ⟨q1, q2, q3⟩ := isW_e (by decide) (by decide) hx
    have hk : ix x < 2 := by omega
    have hX := hX1 hx
    simp only [s82_0, s82_1, s82_2, s82_3, s82_6, s82_9, s82_11, s82_12, s82_13, s82_16, s82_17, s82_18, s82_18n, s82_21, s82_22, s82_25, s82_26, s82_29, s82_30, s82_31, s82_34, s82_37, s82_40, s82_42, s82_45, s82_46, s82_47, s82_48, s82_51, s82_54, s82_55, is_O, opt_s, opt_n, cat_0, cat_i, cat_r, true_and, Nat.zero_le, Nat.reduceAdd, Nat.reduceLeDiff, al_I, as_I, rl_R, ln_I, ln_R, nI_add, pk_mul, g_set, set_set, not_false_eq_true, gf0_0, gf0_1, gf0_2, gf1_0, gf1_1, gf1_2, gf1_3, gf1_4, gf1_5, gf1_6, gf1_7, gf1_8, gf1_9, gf1_10, gf1_11, gf2_0, gf2_1, gf2_2, gf3_0, gf3_1, gf4_0, gf4_1, gf4_2, gf5_0, gf5_1, gf5_2, gf5_3, gf6_0, gf6_1, gf6_2, gf6_3, gf6_4, gf6_5, gf6_6, gf7_0, gf7_1, gf7_2, gf7_3, gf7_4, gf7_5, pf0_0, pf0_1, pf0_2, pf1_0, pf1_1, pf1_2, pf1_3, pf1_4, pf1_5, pf1_6, pf1_7, pf1_8, pf1_9, pf1_10, pf1_11, pf2_0, pf2_1, pf2_2, pf3_0, pf3_1, pf4_0, pf4_1, pf4_2, pf5_0, pf5_1, pf5_2, pf5_3, pf6_0, pf6_1, pf6_2, pf6_3, pf6_4, pf6_5, pf6_6, pf7_0, pf7_1, pf7_2, pf7_3, pf7_4, pf7_5, m_inW, if_pos hx, i10, i10n, not_true_eq_false, if_false, if_true, g1, g51]
    rw [← q3]
    simp only [xi_n hk (show 2 < 2147483648 by decide)]
    cases hb : ι (ix x) with
    | some s =>
      simp only [va_rf, s82_0, s82_1, s82_2, s82_3, s82_6, s82_9, s82_11, s82_12, s82_13, s82_16, s82_17, s82_18, s82_18n, s82_21, s82_22, s82_25, s82_26, s82_29, s82_30, s82_31, s82_34, s82_37, s82_40, s82_42, s82_45, s82_46, s82_47, s82_48, s82_51, s82_54, s82_55, is_O, opt_s, opt_n, cat_0, cat_i, cat_r, true_and, Nat.zero_le, Nat.reduceAdd, Nat.reduceLeDiff, al_I, as_I, rl_R, ln_I, ln_R, nI_add, pk_mul, g_set, set_set, not_false_eq_true, gf0_0, gf0_1, gf0_2, gf1_0, gf1_1, gf1_2, gf1_3, gf1_4, gf1_5, gf1_6, gf1_7, gf1_8, gf1_9, gf1_10, gf1_11, gf2_0, gf2_1, gf2_2, gf3_0, gf3_1, gf4_0, gf4_1, gf4_2, gf5_0, gf5_1, gf5_2, gf5_3, gf6_0, gf6_1, gf6_2, gf6_3, gf6_4, gf6_5, gf6_6, gf7_0, gf7_1, gf7_2, gf7_3, gf7_4, gf7_5, pf0_0, pf0_1, pf0_2, pf1_0, pf1_1, pf1_2, pf1_3, pf1_4, pf1_5, pf1_6, pf1_7, pf1_8, pf1_9, pf1_10, pf1_11, pf2_0, pf2_1, pf2_2, pf3_0, pf3_1, pf4_0, pf4_1, pf4_2, pf5_0, pf5_1, pf5_2, pf5_3, pf6_0, pf6_1, pf6_2, pf6_3, pf6_4, pf6_5, pf6_6, pf7_0, pf7_1, pf7_2, pf7_3, pf7_4, pf7_5]
      exact l_im41 hC hk hb (fun K _ _ k1 k2 => hX K k1 ⟨ρ, ι, k2⟩)
    | none =>
      have hgn : ∀ q, q < h.1 → ex_g (ex_new h (cO 4 (ex_dfl 4)) 3) q = ex_g h q := fun q hq => g_nl hq
      simp only [va_rf, s82_0, s82_1, s82_2, s82_3, s82_6, s82_9, s82_11, s82_12, s82_13, s82_16, s82_17, s82_18, s82_18n, s82_21, s82_22, s82_25, s82_26, s82_29, s82_30, s82_31, s82_34, s82_37, s82_40, s82_42, s82_45, s82_46, s82_47, s82_48, s82_51, s82_54, s82_55, is_O, opt_s, opt_n, cat_0, cat_i, cat_r, true_and, Nat.zero_le, Nat.reduceAdd, Nat.reduceLeDiff, al_I, as_I, rl_R, ln_I, ln_R, nI_add, pk_mul, g_set, set_set, not_false_eq_true, gf0_0, gf0_1, gf0_2, gf1_0, gf1_1, gf1_2, gf1_3, gf1_4, gf1_5, gf1_6, gf1_7, gf1_8, gf1_9, gf1_10, gf1_11, gf2_0, gf2_1, gf2_2, gf3_0, gf3_1, gf4_0, gf4_1, gf4_2, gf5_0, gf5_1, gf5_2, gf5_3, gf6_0, gf6_1, gf6_2, gf6_3, gf6_4, gf6_5, gf6_6, gf7_0, gf7_1, gf7_2, gf7_3, gf7_4, gf7_5, pf0_0, pf0_1, pf0_2, pf1_0, pf1_1, pf1_2, pf1_3, pf1_4, pf1_5, pf1_6, pf1_7, pf1_8, pf1_9, pf1_10, pf1_11, pf2_0, pf2_1, pf2_2, pf3_0, pf3_1, pf4_0, pf4_1, pf4_2, pf5_0, pf5_1, pf5_2, pf5_3, pf6_0, pf6_1, pf6_2, pf6_3, pf6_4, pf6_5, pf6_6, pf7_0, pf7_1, pf7_2, pf7_3, pf7_4, pf7_5, g1, g42, g51, hgn 1 (by omega), hgn 42 (by omega)]
      refine m_State (s := h.1) rfl g_new (fun K k1 k2 k3 k4 => ?_)
      have o1 := k4.1
      have o4 : ex_g K 51 = some (cR 4 2 ι) := (k3 51 (by omega)).trans ((hgn 51 (by omega)).trans g51)
      simp only [s82_0, s82_1, s82_2, s82_3, s82_6, s82_9, s82_11, s82_12, s82_13, s82_16, s82_17, s82_18, s82_18n, s82_21, s82_22, s82_25, s82_26, s82_29, s82_30, s82_31, s82_34, s82_37, s82_40, s82_42, s82_45, s82_46, s82_47, s82_48, s82_51, s82_54, s82_55, is_O, opt_s, opt_n, cat_0, cat_i, cat_r, true_and, Nat.zero_le, Nat.reduceAdd, Nat.reduceLeDiff, al_I, as_I, rl_R, ln_I, ln_R, nI_add, pk_mul, g_set, set_set, not_false_eq_true, gf0_0, gf0_1, gf0_2, gf1_0, gf1_1, gf1_2, gf1_3, gf1_4, gf1_5, gf1_6, gf1_7, gf1_8, gf1_9, gf1_10, gf1_11, gf2_0, gf2_1, gf2_2, gf3_0, gf3_1, gf4_0, gf4_1, gf4_2, gf5_0, gf5_1, gf5_2, gf5_3, gf6_0, gf6_1, gf6_2, gf6_3, gf6_4, gf6_5, gf6_6, gf7_0, gf7_1, gf7_2, gf7_3, gf7_4, gf7_5, pf0_0, pf0_1, pf0_2, pf1_0, pf1_1, pf1_2, pf1_3, pf1_4, pf1_5, pf1_6, pf1_7, pf1_8, pf1_9, pf1_10, pf1_11, pf2_0, pf2_1, pf2_2, pf3_0, pf3_1, pf4_0, pf4_1, pf4_2, pf5_0, pf5_1, pf5_2, pf5_3, pf6_0, pf6_1, pf6_2, pf6_3, pf6_4, pf6_5, pf6_6, pf7_0, pf7_1, pf7_2, pf7_3, pf7_4, pf7_5, o4, o1]
      rw [rs_R (by rfl)]
      simp only [xi_n hk (show 2 < 2147483648 by decide)]
      have hC2 := hC.img0 (H := ex_set K 51 (cR 4 2 (va_up ι (ix x) (some h.1)))) (z := (v, 97, 2, fun _ _ => 0)) hk hb (okSt0 h1 h2) ha (k4.fr (fun q z1 z2 => g_ne (by omega))) k1 (fun q z1 z2 => (g_ne z2).trans ((k3 q z1).trans (hgn q z1))) g_set
      replace k2 : K.2.1 = h.2.1 + 3 + 224 := k2
      refine l_im41 hC2 hk (va_up_self _ _ _) (fun G d1 d2 e1 e2 => hX G ⟨fun q hq => ?_, ?_, ?_, ?_⟩ ⟨ρ, _, by rw [va_up2] at e2; exact e2⟩)
      · rw [e1.1 q hq, g_ne (by omega), k3 q (by omega), hgn q (by omega)]
      · rw [d1, set_1, k1]
        omega
      · rw [d1, set_1, k1]
        omega
      · rw [d2, set_2]
        omega
  · have hX := hX2 hx
    simp only [s82_0, s82_1, s82_2, s82_3, s82_6, s82_9, s82_11, s82_12, s82_13, s82_16, s82_17, s82_18, s82_18n, s82_21, s82_22, s82_25, s82_26, s82_29, s82_30, s82_31, s82_34, s82_37, s82_40, s82_42, s82_45, s82_46, s82_47, s82_48, s82_51, s82_54, s82_55, is_O, opt_s, opt_n, cat_0, cat_i, cat_r, true_and, Nat.zero_le, Nat.reduceAdd, Nat.reduceLeDiff, al_I, as_I, rl_R, ln_I, ln_R, nI_add, pk_mul, g_set, set_set, not_false_eq_true, gf0_0, gf0_1, gf0_2, gf1_0, gf1_1, gf1_2, gf1_3, gf1_4, gf1_5, gf1_6, gf1_7, gf1_8, gf1_9, gf1_10, gf1_11, gf2_0, gf2_1, gf2_2, gf3_0, gf3_1, gf4_0, gf4_1, gf4_2, gf5_0, gf5_1, gf5_2, gf5_3, gf6_0, gf6_1, gf6_2, gf6_3, gf6_4, gf6_5, gf6_6, gf7_0, gf7_1, gf7_2, gf7_3, gf7_4, gf7_5, pf0_0, pf0_1, pf0_2, pf1_0, pf1_1, pf1_2, pf1_3, pf1_4, pf1_5, pf1_6, pf1_7, pf1_8, pf1_9, pf1_10, pf1_11, pf2_0, pf2_1, pf2_2, pf3_0, pf3_1, pf4_0, pf4_1, pf4_2, pf5_0, pf5_1, pf5_2, pf5_3, pf6_0, pf6_1, pf6_2, pf6_3, pf6_4, pf6_5, pf6_6, pf7_0, pf7_1, pf7_2, pf7_3, pf7_4, pf7_5, m_inW, if_neg hx, i10, i10n, not_true_eq_false, if_false, if_true]
    exact hX
end C35
