/-! THE CLASS AS A WHOLE: diagrams told -/
section C29
variable {h H : ex_Hp} {X : Option Value → ex_Hp → Prop} {ρ ι : Nat → Option Nat} {N v p lo a : Nat} {F : Nat → Int32} {S : Nat → Nat → Nat} {I : Nat → Option cSt}
theorem x_of {x y : Int32} (hC : CX ρ ι N F v p lo S I h) (hX : ∀ H, chC h H → CX ρ ι N F v p lo S I H → X (some (.int (aOf v x y))) H) : ex_W 67 0 [.ref 1, .int x, .int y] [] h X := by
  obtain ⟨a, fc, w', fp, ha, hD, hpl, g1, g42, g43, g44, hfp, g45, ga, ga1, ga4, hfc, ga5, gp, gq⟩ := hC.get
  have h1 := hC.2.1.1.1
  have h2 := hC.2.1.1.2
  try dsimp only at h1 h2
  have hTc := tC_le h1 h2
  unfold aOf at hX
  by_cases hx : isW 0 (tC v - 1) x
  · obtain ⟨_, q2, q3⟩ := isW_e (by decide) (by omega) hx
    have hd : ix x < tC v := by omega
    rw [if_pos hx] at hX
    simp only [s67_0, s67_1, s67_2, s67_5, s67_8, s67_9, s67_10, s67_11, s67_40, s67_41, s67_44, s67_47, s67_48, s67_51, s67_52, s67_53, s67_56, s67_59, s67_60, s67_63, s67_64, s67_65, s67_68, s67_71, s67_72, s67_75, s67_76, s67_77, s67_80, s67_83, s67_84, s67_87, s67_88, s67_90, is_O, opt_s, opt_n, cat_0, cat_i, cat_r, true_and, Nat.zero_le, Nat.reduceAdd, Nat.reduceLeDiff, al_I, as_I, rl_R, ln_I, ln_R, nI_add, pk_mul, g_set, set_set, not_false_eq_true, gf0_0, gf0_1, gf0_2, gf1_0, gf1_1, gf1_2, gf1_3, gf1_4, gf1_5, gf1_6, gf1_7, gf1_8, gf1_9, gf1_10, gf1_11, gf2_0, gf2_1, gf2_2, gf3_0, gf3_1, gf4_0, gf4_1, gf4_2, gf5_0, gf5_1, gf5_2, gf5_3, gf6_0, gf6_1, gf6_2, gf6_3, gf6_4, gf6_5, gf6_6, gf7_0, gf7_1, gf7_2, gf7_3, gf7_4, gf7_5, pf0_0, pf0_1, pf0_2, pf1_0, pf1_1, pf1_2, pf1_3, pf1_4, pf1_5, pf1_6, pf1_7, pf1_8, pf1_9, pf1_10, pf1_11, pf2_0, pf2_1, pf2_2, pf3_0, pf3_1, pf4_0, pf4_1, pf4_2, pf5_0, pf5_1, pf5_2, pf5_3, pf6_0, pf6_1, pf6_2, pf6_3, pf6_4, pf6_5, pf6_6, pf7_0, pf7_1, pf7_2, pf7_3, pf7_4, pf7_5, m_cD hC, if_pos hx, i10, i10n, not_true_eq_false, if_false, if_true, g1, g42, ga]
    by_cases y0 : y = nI 0
    · rw [if_pos y0] at hX ⊢
      rw [← q3]
      refine m_through h1 h2 hd hD.1 ?_
      simp only [s67_0, s67_1, s67_2, s67_5, s67_8, s67_9, s67_10, s67_11, s67_40, s67_41, s67_44, s67_47, s67_48, s67_51, s67_52, s67_53, s67_56, s67_59, s67_60, s67_63, s67_64, s67_65, s67_68, s67_71, s67_72, s67_75, s67_76, s67_77, s67_80, s67_83, s67_84, s67_87, s67_88, s67_90, is_O, opt_s, opt_n, cat_0, cat_i, cat_r, true_and, Nat.zero_le, Nat.reduceAdd, Nat.reduceLeDiff, al_I, as_I, rl_R, ln_I, ln_R, nI_add, pk_mul, g_set, set_set, not_false_eq_true, gf0_0, gf0_1, gf0_2, gf1_0, gf1_1, gf1_2, gf1_3, gf1_4, gf1_5, gf1_6, gf1_7, gf1_8, gf1_9, gf1_10, gf1_11, gf2_0, gf2_1, gf2_2, gf3_0, gf3_1, gf4_0, gf4_1, gf4_2, gf5_0, gf5_1, gf5_2, gf5_3, gf6_0, gf6_1, gf6_2, gf6_3, gf6_4, gf6_5, gf6_6, gf7_0, gf7_1, gf7_2, gf7_3, gf7_4, gf7_5, pf0_0, pf0_1, pf0_2, pf1_0, pf1_1, pf1_2, pf1_3, pf1_4, pf1_5, pf1_6, pf1_7, pf1_8, pf1_9, pf1_10, pf1_11, pf2_0, pf2_1, pf2_2, pf3_0, pf3_1, pf4_0, pf4_1, pf4_2, pf5_0, pf5_1, pf5_2, pf5_3, pf6_0, pf6_1, pf6_2, pf6_3, pf6_4, pf6_5, pf6_6, pf7_0, pf7_1, pf7_2, pf7_3, pf7_4, pf7_5]
      exact hX h chC.rfl' hC
    · rw [if_neg y0] at hX ⊢
      by_cases y1 : y = nI 1
      · rw [if_pos y1] at hX ⊢
        rw [← q3]
        refine m_closedD h1 h2 hd hD.1 ?_
        simp only [s67_0, s67_1, s67_2, s67_5, s67_8, s67_9, s67_10, s67_11, s67_40, s67_41, s67_44, s67_47, s67_48, s67_51, s67_52, s67_53, s67_56, s67_59, s67_60, s67_63, s67_64, s67_65, s67_68, s67_71, s67_72, s67_75, s67_76, s67_77, s67_80, s67_83, s67_84, s67_87, s67_88, s67_90, is_O, opt_s, opt_n, cat_0, cat_i, cat_r, true_and, Nat.zero_le, Nat.reduceAdd, Nat.reduceLeDiff, al_I, as_I, rl_R, ln_I, ln_R, nI_add, pk_mul, g_set, set_set, not_false_eq_true, gf0_0, gf0_1, gf0_2, gf1_0, gf1_1, gf1_2, gf1_3, gf1_4, gf1_5, gf1_6, gf1_7, gf1_8, gf1_9, gf1_10, gf1_11, gf2_0, gf2_1, gf2_2, gf3_0, gf3_1, gf4_0, gf4_1, gf4_2, gf5_0, gf5_1, gf5_2, gf5_3, gf6_0, gf6_1, gf6_2, gf6_3, gf6_4, gf6_5, gf6_6, gf7_0, gf7_1, gf7_2, gf7_3, gf7_4, gf7_5, pf0_0, pf0_1, pf0_2, pf1_0, pf1_1, pf1_2, pf1_3, pf1_4, pf1_5, pf1_6, pf1_7, pf1_8, pf1_9, pf1_10, pf1_11, pf2_0, pf2_1, pf2_2, pf3_0, pf3_1, pf4_0, pf4_1, pf4_2, pf5_0, pf5_1, pf5_2, pf5_3, pf6_0, pf6_1, pf6_2, pf6_3, pf6_4, pf6_5, pf6_6, pf7_0, pf7_1, pf7_2, pf7_3, pf7_4, pf7_5]
        exact hX h chC.rfl' hC
      · rw [if_neg y1] at hX ⊢
        by_cases y2 : y = nI 2
        · rw [if_pos y2] at hX ⊢
          rw [← q3]
          refine m_turned h1 h2 hd hD.1 (fun K kc kD => ?_)
          obtain ⟨e1, e2⟩ := hC.D ha kc kD
          simp only [s67_0, s67_1, s67_2, s67_5, s67_8, s67_9, s67_10, s67_11, s67_40, s67_41, s67_44, s67_47, s67_48, s67_51, s67_52, s67_53, s67_56, s67_59, s67_60, s67_63, s67_64, s67_65, s67_68, s67_71, s67_72, s67_75, s67_76, s67_77, s67_80, s67_83, s67_84, s67_87, s67_88, s67_90, is_O, opt_s, opt_n, cat_0, cat_i, cat_r, true_and, Nat.zero_le, Nat.reduceAdd, Nat.reduceLeDiff, al_I, as_I, rl_R, ln_I, ln_R, nI_add, pk_mul, g_set, set_set, not_false_eq_true, gf0_0, gf0_1, gf0_2, gf1_0, gf1_1, gf1_2, gf1_3, gf1_4, gf1_5, gf1_6, gf1_7, gf1_8, gf1_9, gf1_10, gf1_11, gf2_0, gf2_1, gf2_2, gf3_0, gf3_1, gf4_0, gf4_1, gf4_2, gf5_0, gf5_1, gf5_2, gf5_3, gf6_0, gf6_1, gf6_2, gf6_3, gf6_4, gf6_5, gf6_6, gf7_0, gf7_1, gf7_2, gf7_3, gf7_4, gf7_5, pf0_0, pf0_1, pf0_2, pf1_0, pf1_1, pf1_2, pf1_3, pf1_4, pf1_5, pf1_6, pf1_7, pf1_8, pf1_9, pf1_10, pf1_11, pf2_0, pf2_1, pf2_2, pf3_0, pf3_1, pf4_0, pf4_1, pf4_2, pf5_0, pf5_1, pf5_2, pf5_3, pf6_0, pf6_1, pf6_2, pf6_3, pf6_4, pf6_5, pf6_6, pf7_0, pf7_1, pf7_2, pf7_3, pf7_4, pf7_5]
          exact hX K e2 e1
        · rw [if_neg y2] at hX ⊢
          by_cases y3 : y = nI 3
          · rw [if_pos y3] at hX ⊢
            rw [← q3, m_wayLength h1 h2 hd hD]
            simp only [s67_0, s67_1, s67_2, s67_5, s67_8, s67_9, s67_10, s67_11, s67_40, s67_41, s67_44, s67_47, s67_48, s67_51, s67_52, s67_53, s67_56, s67_59, s67_60, s67_63, s67_64, s67_65, s67_68, s67_71, s67_72, s67_75, s67_76, s67_77, s67_80, s67_83, s67_84, s67_87, s67_88, s67_90, is_O, opt_s, opt_n, cat_0, cat_i, cat_r, true_and, Nat.zero_le, Nat.reduceAdd, Nat.reduceLeDiff, al_I, as_I, rl_R, ln_I, ln_R, nI_add, pk_mul, g_set, set_set, not_false_eq_true, gf0_0, gf0_1, gf0_2, gf1_0, gf1_1, gf1_2, gf1_3, gf1_4, gf1_5, gf1_6, gf1_7, gf1_8, gf1_9, gf1_10, gf1_11, gf2_0, gf2_1, gf2_2, gf3_0, gf3_1, gf4_0, gf4_1, gf4_2, gf5_0, gf5_1, gf5_2, gf5_3, gf6_0, gf6_1, gf6_2, gf6_3, gf6_4, gf6_5, gf6_6, gf7_0, gf7_1, gf7_2, gf7_3, gf7_4, gf7_5, pf0_0, pf0_1, pf0_2, pf1_0, pf1_1, pf1_2, pf1_3, pf1_4, pf1_5, pf1_6, pf1_7, pf1_8, pf1_9, pf1_10, pf1_11, pf2_0, pf2_1, pf2_2, pf3_0, pf3_1, pf4_0, pf4_1, pf4_2, pf5_0, pf5_1, pf5_2, pf5_3, pf6_0, pf6_1, pf6_2, pf6_3, pf6_4, pf6_5, pf6_6, pf7_0, pf7_1, pf7_2, pf7_3, pf7_4, pf7_5]
            exact hX h chC.rfl' hC
          · rw [if_neg y3] at hX ⊢
            exact hX h chC.rfl' hC
  · rw [if_neg hx] at hX
    simp only [s67_0, s67_1, s67_2, s67_5, s67_8, s67_9, s67_10, s67_11, s67_40, s67_41, s67_44, s67_47, s67_48, s67_51, s67_52, s67_53, s67_56, s67_59, s67_60, s67_63, s67_64, s67_65, s67_68, s67_71, s67_72, s67_75, s67_76, s67_77, s67_80, s67_83, s67_84, s67_87, s67_88, s67_90, is_O, opt_s, opt_n, cat_0, cat_i, cat_r, true_and, Nat.zero_le, Nat.reduceAdd, Nat.reduceLeDiff, al_I, as_I, rl_R, ln_I, ln_R, nI_add, pk_mul, g_set, set_set, not_false_eq_true, gf0_0, gf0_1, gf0_2, gf1_0, gf1_1, gf1_2, gf1_3, gf1_4, gf1_5, gf1_6, gf1_7, gf1_8, gf1_9, gf1_10, gf1_11, gf2_0, gf2_1, gf2_2, gf3_0, gf3_1, gf4_0, gf4_1, gf4_2, gf5_0, gf5_1, gf5_2, gf5_3, gf6_0, gf6_1, gf6_2, gf6_3, gf6_4, gf6_5, gf6_6, gf7_0, gf7_1, gf7_2, gf7_3, gf7_4, gf7_5, pf0_0, pf0_1, pf0_2, pf1_0, pf1_1, pf1_2, pf1_3, pf1_4, pf1_5, pf1_6, pf1_7, pf1_8, pf1_9, pf1_10, pf1_11, pf2_0, pf2_1, pf2_2, pf3_0, pf3_1, pf4_0, pf4_1, pf4_2, pf5_0, pf5_1, pf5_2, pf5_3, pf6_0, pf6_1, pf6_2, pf6_3, pf6_4, pf6_5, pf6_6, pf7_0, pf7_1, pf7_2, pf7_3, pf7_4, pf7_5, m_cD hC, if_neg hx, i10, i10n, not_true_eq_false, if_false, if_true, g1]
    exact hX h chC.rfl' hC
theorem x_joined {x y : Int32} (hC : CX ρ ι N F v p lo S I h) (hX : X (some (.int (aJo v x y))) h) : ex_W 68 0 [.ref 1, .int x, .int y] [] h X := by
  obtain ⟨a, fc, w', fp, ha, hD, hpl, g1, g42, g43, g44, hfp, g45, ga, ga1, ga4, hfc, ga5, gp, gq⟩ := hC.get
  have h1 := hC.2.1.1.1
  have h2 := hC.2.1.1.2
  try dsimp only at h1 h2
  have hTc := tC_le h1 h2
  unfold aJo at hX
  by_cases hx : isW 0 (tC v - 1) x
  · by_cases hy : isW 0 (2 * v - 1) y
    · obtain ⟨_, q2, q3⟩ := isW_e (by decide) (by omega) hx
      obtain ⟨_, r2, r3⟩ := isW_e (by decide) (by omega) hy
      have hd : ix x < tC v := by omega
      have hj : ix y < 2 * v := by omega
      obtain ⟨f, f1, f2⟩ := hD.1.row h1 h2 hd
      rw [if_pos ⟨hx, hy⟩] at hX
      simp only [s68_0, s68_1, s68_2, s68_5, s68_8, s68_9, s68_10, s68_11, s68_14, s68_17, s68_20, s68_21, s68_22, s68_25, s68_28, s68_29, s68_30, s68_31, s68_34, s68_37, s68_40, s68_43, s68_44, s68_45, s68_46, s68_47, is_O, opt_s, opt_n, cat_0, cat_i, cat_r, true_and, Nat.zero_le, Nat.reduceAdd, Nat.reduceLeDiff, al_I, as_I, rl_R, ln_I, ln_R, nI_add, pk_mul, g_set, set_set, not_false_eq_true, gf0_0, gf0_1, gf0_2, gf1_0, gf1_1, gf1_2, gf1_3, gf1_4, gf1_5, gf1_6, gf1_7, gf1_8, gf1_9, gf1_10, gf1_11, gf2_0, gf2_1, gf2_2, gf3_0, gf3_1, gf4_0, gf4_1, gf4_2, gf5_0, gf5_1, gf5_2, gf5_3, gf6_0, gf6_1, gf6_2, gf6_3, gf6_4, gf6_5, gf6_6, gf7_0, gf7_1, gf7_2, gf7_3, gf7_4, gf7_5, pf0_0, pf0_1, pf0_2, pf1_0, pf1_1, pf1_2, pf1_3, pf1_4, pf1_5, pf1_6, pf1_7, pf1_8, pf1_9, pf1_10, pf1_11, pf2_0, pf2_1, pf2_2, pf3_0, pf3_1, pf4_0, pf4_1, pf4_2, pf5_0, pf5_1, pf5_2, pf5_3, pf6_0, pf6_1, pf6_2, pf6_3, pf6_4, pf6_5, pf6_6, pf7_0, pf7_1, pf7_2, pf7_3, pf7_4, pf7_5, m_cD hC, if_pos hx, i10, i10n, not_true_eq_false, if_false, if_true, g1, g42, ga, ga1, ga5, pk_sub (show 1 ≤ 2 * v by omega), m_inW, if_pos hy]
      rw [← q3, ← r3]
      simp only [xi_n hd (show tC v < 2147483648 by omega), if_pos hd, va_rf, s68_0, s68_1, s68_2, s68_5, s68_8, s68_9, s68_10, s68_11, s68_14, s68_17, s68_20, s68_21, s68_22, s68_25, s68_28, s68_29, s68_30, s68_31, s68_34, s68_37, s68_40, s68_43, s68_44, s68_45, s68_46, s68_47, is_O, opt_s, opt_n, cat_0, cat_i, cat_r, true_and, Nat.zero_le, Nat.reduceAdd, Nat.reduceLeDiff, al_I, as_I, rl_R, ln_I, ln_R, nI_add, pk_mul, g_set, set_set, not_false_eq_true, gf0_0, gf0_1, gf0_2, gf1_0, gf1_1, gf1_2, gf1_3, gf1_4, gf1_5, gf1_6, gf1_7, gf1_8, gf1_9, gf1_10, gf1_11, gf2_0, gf2_1, gf2_2, gf3_0, gf3_1, gf4_0, gf4_1, gf4_2, gf5_0, gf5_1, gf5_2, gf5_3, gf6_0, gf6_1, gf6_2, gf6_3, gf6_4, gf6_5, gf6_6, gf7_0, gf7_1, gf7_2, gf7_3, gf7_4, gf7_5, pf0_0, pf0_1, pf0_2, pf1_0, pf1_1, pf1_2, pf1_3, pf1_4, pf1_5, pf1_6, pf1_7, pf1_8, pf1_9, pf1_10, pf1_11, pf2_0, pf2_1, pf2_2, pf3_0, pf3_1, pf4_0, pf4_1, pf4_2, pf5_0, pf5_1, pf5_2, pf5_3, pf6_0, pf6_1, pf6_2, pf6_3, pf6_4, pf6_5, pf6_6, pf7_0, pf7_1, pf7_2, pf7_3, pf7_4, pf7_5, f1, xi_n hj (show 2 * v < 2147483648 by omega), f2 _ hj]
      exact hX
    · rw [if_neg (fun z => hy z.2)] at hX
      simp only [s68_0, s68_1, s68_2, s68_5, s68_8, s68_9, s68_10, s68_11, s68_14, s68_17, s68_20, s68_21, s68_22, s68_25, s68_28, s68_29, s68_30, s68_31, s68_34, s68_37, s68_40, s68_43, s68_44, s68_45, s68_46, s68_47, is_O, opt_s, opt_n, cat_0, cat_i, cat_r, true_and, Nat.zero_le, Nat.reduceAdd, Nat.reduceLeDiff, al_I, as_I, rl_R, ln_I, ln_R, nI_add, pk_mul, g_set, set_set, not_false_eq_true, gf0_0, gf0_1, gf0_2, gf1_0, gf1_1, gf1_2, gf1_3, gf1_4, gf1_5, gf1_6, gf1_7, gf1_8, gf1_9, gf1_10, gf1_11, gf2_0, gf2_1, gf2_2, gf3_0, gf3_1, gf4_0, gf4_1, gf4_2, gf5_0, gf5_1, gf5_2, gf5_3, gf6_0, gf6_1, gf6_2, gf6_3, gf6_4, gf6_5, gf6_6, gf7_0, gf7_1, gf7_2, gf7_3, gf7_4, gf7_5, pf0_0, pf0_1, pf0_2, pf1_0, pf1_1, pf1_2, pf1_3, pf1_4, pf1_5, pf1_6, pf1_7, pf1_8, pf1_9, pf1_10, pf1_11, pf2_0, pf2_1, pf2_2, pf3_0, pf3_1, pf4_0, pf4_1, pf4_2, pf5_0, pf5_1, pf5_2, pf5_3, pf6_0, pf6_1, pf6_2, pf6_3, pf6_4, pf6_5, pf6_6, pf7_0, pf7_1, pf7_2, pf7_3, pf7_4, pf7_5, m_cD hC, if_pos hx, i10, i10n, not_true_eq_false, if_false, if_true, g1, g42, ga, pk_sub (show 1 ≤ 2 * v by omega), m_inW, if_neg hy]
      exact hX
  · rw [if_neg (fun z => hx z.1)] at hX
    simp only [s68_0, s68_1, s68_2, s68_5, s68_8, s68_9, s68_10, s68_11, s68_14, s68_17, s68_20, s68_21, s68_22, s68_25, s68_28, s68_29, s68_30, s68_31, s68_34, s68_37, s68_40, s68_43, s68_44, s68_45, s68_46, s68_47, is_O, opt_s, opt_n, cat_0, cat_i, cat_r, true_and, Nat.zero_le, Nat.reduceAdd, Nat.reduceLeDiff, al_I, as_I, rl_R, ln_I, ln_R, nI_add, pk_mul, g_set, set_set, not_false_eq_true, gf0_0, gf0_1, gf0_2, gf1_0, gf1_1, gf1_2, gf1_3, gf1_4, gf1_5, gf1_6, gf1_7, gf1_8, gf1_9, gf1_10, gf1_11, gf2_0, gf2_1, gf2_2, gf3_0, gf3_1, gf4_0, gf4_1, gf4_2, gf5_0, gf5_1, gf5_2, gf5_3, gf6_0, gf6_1, gf6_2, gf6_3, gf6_4, gf6_5, gf6_6, gf7_0, gf7_1, gf7_2, gf7_3, gf7_4, gf7_5, pf0_0, pf0_1, pf0_2, pf1_0, pf1_1, pf1_2, pf1_3, pf1_4, pf1_5, pf1_6, pf1_7, pf1_8, pf1_9, pf1_10, pf1_11, pf2_0, pf2_1, pf2_2, pf3_0, pf3_1, pf4_0, pf4_1, pf4_2, pf5_0, pf5_1, pf5_2, pf5_3, pf6_0, pf6_1, pf6_2, pf6_3, pf6_4, pf6_5, pf6_6, pf7_0, pf7_1, pf7_2, pf7_3, pf7_4, pf7_5, m_cD hC, if_neg hx, i10, i10n, not_true_eq_false, if_false, if_true, g1]
    exact hX
theorem isW01 {z : Int32} (hz : isW 0 1 z) : z = nI 0 ∨ z = nI 1 := by
  obtain ⟨_, q2, q3⟩ := isW_e (by decide) (by decide) hz
  rcases (show ix z = 0 ∨ ix z = 1 by omega) with e | e
  · rw [e] at q3; exact Or.inl q3.symm
  · rw [e] at q3; exact Or.inr q3.symm
theorem isW01n {z : Int32} (hz : ¬ isW 0 1 z) : ¬ z = nI 0 ∧ ¬ z = nI 1 := ⟨fun e => hz (by rw [e]; decide), fun e => hz (by rw [e]; decide)⟩
theorem x_stack {x y z : Int32} (hC : CX ρ ι N F v p lo S I h) (hX : ∀ H, chC h H → CX ρ ι N F v p lo S I H → X (some (.int (aSk v x y z))) H) : ex_W 69 0 [.ref 1, .int x, .int y, .int z] [] h X := by
  obtain ⟨a, fc, w', fp, ha, hD, hpl, g1, g42, g43, g44, hfp, g45, ga, ga1, ga4, hfc, ga5, gp, gq⟩ := hC.get
  have h1 := hC.2.1.1.1
  have h2 := hC.2.1.1.2
  try dsimp only at h1 h2
  have hTc := tC_le h1 h2
  unfold aSk at hX
  by_cases hx : isW 0 (tC v - 1) x
  · by_cases hy : isW 0 (tC v - 1) y
    · obtain ⟨_, q2, q3⟩ := isW_e (by decide) (by omega) hx
      obtain ⟨_, r2, r3⟩ := isW_e (by decide) (by omega) hy
      have hd : ix x < tC v := by omega
      have he : ix y < tC v := by omega
      rw [if_pos ⟨hx, hy⟩] at hX
      by_cases hz : isW 0 1 z
      · simp only [s69_0, s69_1, s69_2, s69_5, s69_8, s69_9, s69_10, s69_13, s69_16, s69_17, s69_18, s69_19, s69_20, s69_21, s69_24, s69_27, s69_29, s69_30, s69_31, s69_34, s69_35, s69_38, s69_41, s69_42, s69_43, s69_46, s69_49, s69_50, s69_53, s69_56, s69_57, s69_58, s69_61, is_O, opt_s, opt_n, cat_0, cat_i, cat_r, true_and, Nat.zero_le, Nat.reduceAdd, Nat.reduceLeDiff, al_I, as_I, rl_R, ln_I, ln_R, nI_add, pk_mul, g_set, set_set, not_false_eq_true, gf0_0, gf0_1, gf0_2, gf1_0, gf1_1, gf1_2, gf1_3, gf1_4, gf1_5, gf1_6, gf1_7, gf1_8, gf1_9, gf1_10, gf1_11, gf2_0, gf2_1, gf2_2, gf3_0, gf3_1, gf4_0, gf4_1, gf4_2, gf5_0, gf5_1, gf5_2, gf5_3, gf6_0, gf6_1, gf6_2, gf6_3, gf6_4, gf6_5, gf6_6, gf7_0, gf7_1, gf7_2, gf7_3, gf7_4, gf7_5, pf0_0, pf0_1, pf0_2, pf1_0, pf1_1, pf1_2, pf1_3, pf1_4, pf1_5, pf1_6, pf1_7, pf1_8, pf1_9, pf1_10, pf1_11, pf2_0, pf2_1, pf2_2, pf3_0, pf3_1, pf4_0, pf4_1, pf4_2, pf5_0, pf5_1, pf5_2, pf5_3, pf6_0, pf6_1, pf6_2, pf6_3, pf6_4, pf6_5, pf6_6, pf7_0, pf7_1, pf7_2, pf7_3, pf7_4, pf7_5, m_cD hC, if_pos hx, if_pos hy, i10, i10n, not_true_eq_false, if_false, if_true, g1, g42, ga, m_inW, if_pos hz]
        rw [← q3, ← r3]
        rcases isW01 hz with e | e
        · rw [if_pos e] at hX
          rw [if_neg (fun q => q e)]
          refine m_stackD h1 h2 hd he hD.1 (fun K kc kD => ?_)
          obtain ⟨e1, e2⟩ := hC.D ha kc kD
          simp only [s69_0, s69_1, s69_2, s69_5, s69_8, s69_9, s69_10, s69_13, s69_16, s69_17, s69_18, s69_19, s69_20, s69_21, s69_24, s69_27, s69_29, s69_30, s69_31, s69_34, s69_35, s69_38, s69_41, s69_42, s69_43, s69_46, s69_49, s69_50, s69_53, s69_56, s69_57, s69_58, s69_61, is_O, opt_s, opt_n, cat_0, cat_i, cat_r, true_and, Nat.zero_le, Nat.reduceAdd, Nat.reduceLeDiff, al_I, as_I, rl_R, ln_I, ln_R, nI_add, pk_mul, g_set, set_set, not_false_eq_true, gf0_0, gf0_1, gf0_2, gf1_0, gf1_1, gf1_2, gf1_3, gf1_4, gf1_5, gf1_6, gf1_7, gf1_8, gf1_9, gf1_10, gf1_11, gf2_0, gf2_1, gf2_2, gf3_0, gf3_1, gf4_0, gf4_1, gf4_2, gf5_0, gf5_1, gf5_2, gf5_3, gf6_0, gf6_1, gf6_2, gf6_3, gf6_4, gf6_5, gf6_6, gf7_0, gf7_1, gf7_2, gf7_3, gf7_4, gf7_5, pf0_0, pf0_1, pf0_2, pf1_0, pf1_1, pf1_2, pf1_3, pf1_4, pf1_5, pf1_6, pf1_7, pf1_8, pf1_9, pf1_10, pf1_11, pf2_0, pf2_1, pf2_2, pf3_0, pf3_1, pf4_0, pf4_1, pf4_2, pf5_0, pf5_1, pf5_2, pf5_3, pf6_0, pf6_1, pf6_2, pf6_3, pf6_4, pf6_5, pf6_6, pf7_0, pf7_1, pf7_2, pf7_3, pf7_4, pf7_5]
          exact hX K e2 e1
        · rw [if_neg (fun q => absurd (q.symm.trans e) (by decide)), if_pos e] at hX
          rw [if_pos (fun q => absurd (q.symm.trans e) (by decide))]
          refine m_stackL h1 h2 hd he hD.1 (fun K kc kD => ?_)
          obtain ⟨e1, e2⟩ := hC.D ha kc kD
          simp only [s69_0, s69_1, s69_2, s69_5, s69_8, s69_9, s69_10, s69_13, s69_16, s69_17, s69_18, s69_19, s69_20, s69_21, s69_24, s69_27, s69_29, s69_30, s69_31, s69_34, s69_35, s69_38, s69_41, s69_42, s69_43, s69_46, s69_49, s69_50, s69_53, s69_56, s69_57, s69_58, s69_61, is_O, opt_s, opt_n, cat_0, cat_i, cat_r, true_and, Nat.zero_le, Nat.reduceAdd, Nat.reduceLeDiff, al_I, as_I, rl_R, ln_I, ln_R, nI_add, pk_mul, g_set, set_set, not_false_eq_true, gf0_0, gf0_1, gf0_2, gf1_0, gf1_1, gf1_2, gf1_3, gf1_4, gf1_5, gf1_6, gf1_7, gf1_8, gf1_9, gf1_10, gf1_11, gf2_0, gf2_1, gf2_2, gf3_0, gf3_1, gf4_0, gf4_1, gf4_2, gf5_0, gf5_1, gf5_2, gf5_3, gf6_0, gf6_1, gf6_2, gf6_3, gf6_4, gf6_5, gf6_6, gf7_0, gf7_1, gf7_2, gf7_3, gf7_4, gf7_5, pf0_0, pf0_1, pf0_2, pf1_0, pf1_1, pf1_2, pf1_3, pf1_4, pf1_5, pf1_6, pf1_7, pf1_8, pf1_9, pf1_10, pf1_11, pf2_0, pf2_1, pf2_2, pf3_0, pf3_1, pf4_0, pf4_1, pf4_2, pf5_0, pf5_1, pf5_2, pf5_3, pf6_0, pf6_1, pf6_2, pf6_3, pf6_4, pf6_5, pf6_6, pf7_0, pf7_1, pf7_2, pf7_3, pf7_4, pf7_5]
          exact hX K e2 e1
      · obtain ⟨n1, n2⟩ := isW01n hz
        rw [if_neg n1, if_neg n2] at hX
        simp only [s69_0, s69_1, s69_2, s69_5, s69_8, s69_9, s69_10, s69_13, s69_16, s69_17, s69_18, s69_19, s69_20, s69_21, s69_24, s69_27, s69_29, s69_30, s69_31, s69_34, s69_35, s69_38, s69_41, s69_42, s69_43, s69_46, s69_49, s69_50, s69_53, s69_56, s69_57, s69_58, s69_61, is_O, opt_s, opt_n, cat_0, cat_i, cat_r, true_and, Nat.zero_le, Nat.reduceAdd, Nat.reduceLeDiff, al_I, as_I, rl_R, ln_I, ln_R, nI_add, pk_mul, g_set, set_set, not_false_eq_true, gf0_0, gf0_1, gf0_2, gf1_0, gf1_1, gf1_2, gf1_3, gf1_4, gf1_5, gf1_6, gf1_7, gf1_8, gf1_9, gf1_10, gf1_11, gf2_0, gf2_1, gf2_2, gf3_0, gf3_1, gf4_0, gf4_1, gf4_2, gf5_0, gf5_1, gf5_2, gf5_3, gf6_0, gf6_1, gf6_2, gf6_3, gf6_4, gf6_5, gf6_6, gf7_0, gf7_1, gf7_2, gf7_3, gf7_4, gf7_5, pf0_0, pf0_1, pf0_2, pf1_0, pf1_1, pf1_2, pf1_3, pf1_4, pf1_5, pf1_6, pf1_7, pf1_8, pf1_9, pf1_10, pf1_11, pf2_0, pf2_1, pf2_2, pf3_0, pf3_1, pf4_0, pf4_1, pf4_2, pf5_0, pf5_1, pf5_2, pf5_3, pf6_0, pf6_1, pf6_2, pf6_3, pf6_4, pf6_5, pf6_6, pf7_0, pf7_1, pf7_2, pf7_3, pf7_4, pf7_5, m_cD hC, if_pos hx, if_pos hy, i10, i10n, not_true_eq_false, if_false, if_true, m_inW, if_neg hz, g1]
        exact hX h chC.rfl' hC
    · rw [if_neg (fun q => hy q.2)] at hX
      simp only [s69_0, s69_1, s69_2, s69_5, s69_8, s69_9, s69_10, s69_13, s69_16, s69_17, s69_18, s69_19, s69_20, s69_21, s69_24, s69_27, s69_29, s69_30, s69_31, s69_34, s69_35, s69_38, s69_41, s69_42, s69_43, s69_46, s69_49, s69_50, s69_53, s69_56, s69_57, s69_58, s69_61, is_O, opt_s, opt_n, cat_0, cat_i, cat_r, true_and, Nat.zero_le, Nat.reduceAdd, Nat.reduceLeDiff, al_I, as_I, rl_R, ln_I, ln_R, nI_add, pk_mul, g_set, set_set, not_false_eq_true, gf0_0, gf0_1, gf0_2, gf1_0, gf1_1, gf1_2, gf1_3, gf1_4, gf1_5, gf1_6, gf1_7, gf1_8, gf1_9, gf1_10, gf1_11, gf2_0, gf2_1, gf2_2, gf3_0, gf3_1, gf4_0, gf4_1, gf4_2, gf5_0, gf5_1, gf5_2, gf5_3, gf6_0, gf6_1, gf6_2, gf6_3, gf6_4, gf6_5, gf6_6, gf7_0, gf7_1, gf7_2, gf7_3, gf7_4, gf7_5, pf0_0, pf0_1, pf0_2, pf1_0, pf1_1, pf1_2, pf1_3, pf1_4, pf1_5, pf1_6, pf1_7, pf1_8, pf1_9, pf1_10, pf1_11, pf2_0, pf2_1, pf2_2, pf3_0, pf3_1, pf4_0, pf4_1, pf4_2, pf5_0, pf5_1, pf5_2, pf5_3, pf6_0, pf6_1, pf6_2, pf6_3, pf6_4, pf6_5, pf6_6, pf7_0, pf7_1, pf7_2, pf7_3, pf7_4, pf7_5, m_cD hC, if_pos hx, if_neg hy, i10, i10n, not_true_eq_false, if_false, if_true, g1]
      exact hX h chC.rfl' hC
  · rw [if_neg (fun q => hx q.1)] at hX
    simp only [s69_0, s69_1, s69_2, s69_5, s69_8, s69_9, s69_10, s69_13, s69_16, s69_17, s69_18, s69_19, s69_20, s69_21, s69_24, s69_27, s69_29, s69_30, s69_31, s69_34, s69_35, s69_38, s69_41, s69_42, s69_43, s69_46, s69_49, s69_50, s69_53, s69_56, s69_57, s69_58, s69_61, is_O, opt_s, opt_n, cat_0, cat_i, cat_r, true_and, Nat.zero_le, Nat.reduceAdd, Nat.reduceLeDiff, al_I, as_I, rl_R, ln_I, ln_R, nI_add, pk_mul, g_set, set_set, not_false_eq_true, gf0_0, gf0_1, gf0_2, gf1_0, gf1_1, gf1_2, gf1_3, gf1_4, gf1_5, gf1_6, gf1_7, gf1_8, gf1_9, gf1_10, gf1_11, gf2_0, gf2_1, gf2_2, gf3_0, gf3_1, gf4_0, gf4_1, gf4_2, gf5_0, gf5_1, gf5_2, gf5_3, gf6_0, gf6_1, gf6_2, gf6_3, gf6_4, gf6_5, gf6_6, gf7_0, gf7_1, gf7_2, gf7_3, gf7_4, gf7_5, pf0_0, pf0_1, pf0_2, pf1_0, pf1_1, pf1_2, pf1_3, pf1_4, pf1_5, pf1_6, pf1_7, pf1_8, pf1_9, pf1_10, pf1_11, pf2_0, pf2_1, pf2_2, pf3_0, pf3_1, pf4_0, pf4_1, pf4_2, pf5_0, pf5_1, pf5_2, pf5_3, pf6_0, pf6_1, pf6_2, pf6_3, pf6_4, pf6_5, pf6_6, pf7_0, pf7_1, pf7_2, pf7_3, pf7_4, pf7_5, m_cD hC, if_neg hx, i10, i10n, not_true_eq_false, if_false, if_true, g1]
    exact hX h chC.rfl' hC
theorem x_way {x y : Int32} (hC : CX ρ ι N F v p lo S I h) (hX : X (some (.int (aWy v x y))) h) : ex_W 70 0 [.ref 1, .int x, .int y] [] h X := by
  obtain ⟨a, fc, w', fp, ha, hD, hpl, g1, g42, g43, g44, hfp, g45, ga, ga1, ga4, hfc, ga5, gp, gq⟩ := hC.get
  have h1 := hC.2.1.1.1
  have h2 := hC.2.1.1.2
  try dsimp only at h1 h2
  have hTc := tC_le h1 h2
  unfold aWy at hX
  by_cases hx : isW 0 (tC v - 1) x
  · obtain ⟨_, q2, q3⟩ := isW_e (by decide) (by omega) hx
    have hd : ix x < tC v := by omega
    rw [if_pos hx] at hX
    simp only [s70_0, s70_1, s70_2, s70_5, s70_8, s70_9, s70_10, s70_11, s70_14, s70_17, s70_18, s70_19, s70_22, is_O, opt_s, opt_n, cat_0, cat_i, cat_r, true_and, Nat.zero_le, Nat.reduceAdd, Nat.reduceLeDiff, al_I, as_I, rl_R, ln_I, ln_R, nI_add, pk_mul, g_set, set_set, not_false_eq_true, gf0_0, gf0_1, gf0_2, gf1_0, gf1_1, gf1_2, gf1_3, gf1_4, gf1_5, gf1_6, gf1_7, gf1_8, gf1_9, gf1_10, gf1_11, gf2_0, gf2_1, gf2_2, gf3_0, gf3_1, gf4_0, gf4_1, gf4_2, gf5_0, gf5_1, gf5_2, gf5_3, gf6_0, gf6_1, gf6_2, gf6_3, gf6_4, gf6_5, gf6_6, gf7_0, gf7_1, gf7_2, gf7_3, gf7_4, gf7_5, pf0_0, pf0_1, pf0_2, pf1_0, pf1_1, pf1_2, pf1_3, pf1_4, pf1_5, pf1_6, pf1_7, pf1_8, pf1_9, pf1_10, pf1_11, pf2_0, pf2_1, pf2_2, pf3_0, pf3_1, pf4_0, pf4_1, pf4_2, pf5_0, pf5_1, pf5_2, pf5_3, pf6_0, pf6_1, pf6_2, pf6_3, pf6_4, pf6_5, pf6_6, pf7_0, pf7_1, pf7_2, pf7_3, pf7_4, pf7_5, m_cD hC, if_pos hx, i10, i10n, not_true_eq_false, if_false, if_true, g1, g42, ga]
    rw [← q3]
    refine m_wayHook h1 h2 hd hD ?_
    simp only [s70_0, s70_1, s70_2, s70_5, s70_8, s70_9, s70_10, s70_11, s70_14, s70_17, s70_18, s70_19, s70_22, is_O, opt_s, opt_n, cat_0, cat_i, cat_r, true_and, Nat.zero_le, Nat.reduceAdd, Nat.reduceLeDiff, al_I, as_I, rl_R, ln_I, ln_R, nI_add, pk_mul, g_set, set_set, not_false_eq_true, gf0_0, gf0_1, gf0_2, gf1_0, gf1_1, gf1_2, gf1_3, gf1_4, gf1_5, gf1_6, gf1_7, gf1_8, gf1_9, gf1_10, gf1_11, gf2_0, gf2_1, gf2_2, gf3_0, gf3_1, gf4_0, gf4_1, gf4_2, gf5_0, gf5_1, gf5_2, gf5_3, gf6_0, gf6_1, gf6_2, gf6_3, gf6_4, gf6_5, gf6_6, gf7_0, gf7_1, gf7_2, gf7_3, gf7_4, gf7_5, pf0_0, pf0_1, pf0_2, pf1_0, pf1_1, pf1_2, pf1_3, pf1_4, pf1_5, pf1_6, pf1_7, pf1_8, pf1_9, pf1_10, pf1_11, pf2_0, pf2_1, pf2_2, pf3_0, pf3_1, pf4_0, pf4_1, pf4_2, pf5_0, pf5_1, pf5_2, pf5_3, pf6_0, pf6_1, pf6_2, pf6_3, pf6_4, pf6_5, pf6_6, pf7_0, pf7_1, pf7_2, pf7_3, pf7_4, pf7_5]
    exact hX
  · rw [if_neg hx] at hX
    simp only [s70_0, s70_1, s70_2, s70_5, s70_8, s70_9, s70_10, s70_11, s70_14, s70_17, s70_18, s70_19, s70_22, is_O, opt_s, opt_n, cat_0, cat_i, cat_r, true_and, Nat.zero_le, Nat.reduceAdd, Nat.reduceLeDiff, al_I, as_I, rl_R, ln_I, ln_R, nI_add, pk_mul, g_set, set_set, not_false_eq_true, gf0_0, gf0_1, gf0_2, gf1_0, gf1_1, gf1_2, gf1_3, gf1_4, gf1_5, gf1_6, gf1_7, gf1_8, gf1_9, gf1_10, gf1_11, gf2_0, gf2_1, gf2_2, gf3_0, gf3_1, gf4_0, gf4_1, gf4_2, gf5_0, gf5_1, gf5_2, gf5_3, gf6_0, gf6_1, gf6_2, gf6_3, gf6_4, gf6_5, gf6_6, gf7_0, gf7_1, gf7_2, gf7_3, gf7_4, gf7_5, pf0_0, pf0_1, pf0_2, pf1_0, pf1_1, pf1_2, pf1_3, pf1_4, pf1_5, pf1_6, pf1_7, pf1_8, pf1_9, pf1_10, pf1_11, pf2_0, pf2_1, pf2_2, pf3_0, pf3_1, pf4_0, pf4_1, pf4_2, pf5_0, pf5_1, pf5_2, pf5_3, pf6_0, pf6_1, pf6_2, pf6_3, pf6_4, pf6_5, pf6_6, pf7_0, pf7_1, pf7_2, pf7_3, pf7_4, pf7_5, m_cD hC, if_neg hx, i10, i10n, not_true_eq_false, if_false, if_true, g1]
    exact hX
theorem x_fault {x : Int32} (hC : CX ρ ι N F v p lo S I h) (hX : X (some (.int (if x = nI 0 then dft F v N 0 0 0 else if x = nI 1 then wft F v N 0 else -2))) h) : ex_W 64 0 [.ref 1, .int x] [] h X := by
  obtain ⟨a, fc, w', fp, ha, hD, hpl, g1, g42, g43, g44, hfp, g45, ga, ga1, ga4, hfc, ga5, gp, gq⟩ := hC.get
  have h1 := hC.2.1.1.1
  have h2 := hC.2.1.1.2
  have hN := hC.1
  try dsimp only at h1 h2
  by_cases hx : isW 0 1 x
  · simp only [s64_0, s64_1, s64_2, s64_3, s64_6, s64_9, s64_11, s64_12, s64_13, s64_16, s64_17, s64_20, s64_21, s64_24, s64_27, s64_30, s64_33, s64_36, s64_37, s64_40, s64_41, s64_44, s64_47, s64_50, s64_53, is_O, opt_s, opt_n, cat_0, cat_i, cat_r, true_and, Nat.zero_le, Nat.reduceAdd, Nat.reduceLeDiff, al_I, as_I, rl_R, ln_I, ln_R, nI_add, pk_mul, g_set, set_set, not_false_eq_true, gf0_0, gf0_1, gf0_2, gf1_0, gf1_1, gf1_2, gf1_3, gf1_4, gf1_5, gf1_6, gf1_7, gf1_8, gf1_9, gf1_10, gf1_11, gf2_0, gf2_1, gf2_2, gf3_0, gf3_1, gf4_0, gf4_1, gf4_2, gf5_0, gf5_1, gf5_2, gf5_3, gf6_0, gf6_1, gf6_2, gf6_3, gf6_4, gf6_5, gf6_6, gf7_0, gf7_1, gf7_2, gf7_3, gf7_4, gf7_5, pf0_0, pf0_1, pf0_2, pf1_0, pf1_1, pf1_2, pf1_3, pf1_4, pf1_5, pf1_6, pf1_7, pf1_8, pf1_9, pf1_10, pf1_11, pf2_0, pf2_1, pf2_2, pf3_0, pf3_1, pf4_0, pf4_1, pf4_2, pf5_0, pf5_1, pf5_2, pf5_3, pf6_0, pf6_1, pf6_2, pf6_3, pf6_4, pf6_5, pf6_6, pf7_0, pf7_1, pf7_2, pf7_3, pf7_4, pf7_5, m_inW, if_pos hx, i10, i10n, not_true_eq_false, if_false, if_true, g1, g42, ga, gp]
    rcases isW01 hx with e | e
    · rw [if_pos e] at hX
      rw [if_neg (fun q => q e)]
      refine m_padDf h1 h2 hN gp gq ?_
      simp only [s64_0, s64_1, s64_2, s64_3, s64_6, s64_9, s64_11, s64_12, s64_13, s64_16, s64_17, s64_20, s64_21, s64_24, s64_27, s64_30, s64_33, s64_36, s64_37, s64_40, s64_41, s64_44, s64_47, s64_50, s64_53, is_O, opt_s, opt_n, cat_0, cat_i, cat_r, true_and, Nat.zero_le, Nat.reduceAdd, Nat.reduceLeDiff, al_I, as_I, rl_R, ln_I, ln_R, nI_add, pk_mul, g_set, set_set, not_false_eq_true, gf0_0, gf0_1, gf0_2, gf1_0, gf1_1, gf1_2, gf1_3, gf1_4, gf1_5, gf1_6, gf1_7, gf1_8, gf1_9, gf1_10, gf1_11, gf2_0, gf2_1, gf2_2, gf3_0, gf3_1, gf4_0, gf4_1, gf4_2, gf5_0, gf5_1, gf5_2, gf5_3, gf6_0, gf6_1, gf6_2, gf6_3, gf6_4, gf6_5, gf6_6, gf7_0, gf7_1, gf7_2, gf7_3, gf7_4, gf7_5, pf0_0, pf0_1, pf0_2, pf1_0, pf1_1, pf1_2, pf1_3, pf1_4, pf1_5, pf1_6, pf1_7, pf1_8, pf1_9, pf1_10, pf1_11, pf2_0, pf2_1, pf2_2, pf3_0, pf3_1, pf4_0, pf4_1, pf4_2, pf5_0, pf5_1, pf5_2, pf5_3, pf6_0, pf6_1, pf6_2, pf6_3, pf6_4, pf6_5, pf6_6, pf7_0, pf7_1, pf7_2, pf7_3, pf7_4, pf7_5]
      exact hX
    · rw [if_neg (fun q => absurd (q.symm.trans e) (by decide)), if_pos e] at hX
      rw [if_pos (fun q => absurd (q.symm.trans e) (by decide))]
      refine m_padWf h1 h2 hN gp gq ?_
      simp only [s64_0, s64_1, s64_2, s64_3, s64_6, s64_9, s64_11, s64_12, s64_13, s64_16, s64_17, s64_20, s64_21, s64_24, s64_27, s64_30, s64_33, s64_36, s64_37, s64_40, s64_41, s64_44, s64_47, s64_50, s64_53, is_O, opt_s, opt_n, cat_0, cat_i, cat_r, true_and, Nat.zero_le, Nat.reduceAdd, Nat.reduceLeDiff, al_I, as_I, rl_R, ln_I, ln_R, nI_add, pk_mul, g_set, set_set, not_false_eq_true, gf0_0, gf0_1, gf0_2, gf1_0, gf1_1, gf1_2, gf1_3, gf1_4, gf1_5, gf1_6, gf1_7, gf1_8, gf1_9, gf1_10, gf1_11, gf2_0, gf2_1, gf2_2, gf3_0, gf3_1, gf4_0, gf4_1, gf4_2, gf5_0, gf5_1, gf5_2, gf5_3, gf6_0, gf6_1, gf6_2, gf6_3, gf6_4, gf6_5, gf6_6, gf7_0, gf7_1, gf7_2, gf7_3, gf7_4, gf7_5, pf0_0, pf0_1, pf0_2, pf1_0, pf1_1, pf1_2, pf1_3, pf1_4, pf1_5, pf1_6, pf1_7, pf1_8, pf1_9, pf1_10, pf1_11, pf2_0, pf2_1, pf2_2, pf3_0, pf3_1, pf4_0, pf4_1, pf4_2, pf5_0, pf5_1, pf5_2, pf5_3, pf6_0, pf6_1, pf6_2, pf6_3, pf6_4, pf6_5, pf6_6, pf7_0, pf7_1, pf7_2, pf7_3, pf7_4, pf7_5]
      exact hX
  · obtain ⟨n1, n2⟩ := isW01n hx
    rw [if_neg n1, if_neg n2] at hX
    simp only [s64_0, s64_1, s64_2, s64_3, s64_6, s64_9, s64_11, s64_12, s64_13, s64_16, s64_17, s64_20, s64_21, s64_24, s64_27, s64_30, s64_33, s64_36, s64_37, s64_40, s64_41, s64_44, s64_47, s64_50, s64_53, is_O, opt_s, opt_n, cat_0, cat_i, cat_r, true_and, Nat.zero_le, Nat.reduceAdd, Nat.reduceLeDiff, al_I, as_I, rl_R, ln_I, ln_R, nI_add, pk_mul, g_set, set_set, not_false_eq_true, gf0_0, gf0_1, gf0_2, gf1_0, gf1_1, gf1_2, gf1_3, gf1_4, gf1_5, gf1_6, gf1_7, gf1_8, gf1_9, gf1_10, gf1_11, gf2_0, gf2_1, gf2_2, gf3_0, gf3_1, gf4_0, gf4_1, gf4_2, gf5_0, gf5_1, gf5_2, gf5_3, gf6_0, gf6_1, gf6_2, gf6_3, gf6_4, gf6_5, gf6_6, gf7_0, gf7_1, gf7_2, gf7_3, gf7_4, gf7_5, pf0_0, pf0_1, pf0_2, pf1_0, pf1_1, pf1_2, pf1_3, pf1_4, pf1_5, pf1_6, pf1_7, pf1_8, pf1_9, pf1_10, pf1_11, pf2_0, pf2_1, pf2_2, pf3_0, pf3_1, pf4_0, pf4_1, pf4_2, pf5_0, pf5_1, pf5_2, pf5_3, pf6_0, pf6_1, pf6_2, pf6_3, pf6_4, pf6_5, pf6_6, pf7_0, pf7_1, pf7_2, pf7_3, pf7_4, pf7_5, m_inW, if_neg hx, i10, i10n, not_true_eq_false, if_false, if_true]
    exact hX
end C29
