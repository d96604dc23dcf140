/-! THE CLASS AS A WHOLE: cells, forms, primes, what is counted -/
section C33
variable {h H : ex_Hp} {X : Option Value → ex_Hp → Prop} {ρ ι : Nat → Option Nat} {N v p lo a : Nat} {F : Nat → Int32} {S : Nat → Nat → Nat} {I : Nat → Option cSt}
/-- the table alone has changed -/
theorem CX.tab (hC : CX ρ ι N F v p lo S I h) (hc : chT 56 h H) (ho : ∃ d r n, ex_g H 56 = some (oTb 56 d r n)) (hB : ∃ T, TB 56 0 T H) : CX ρ ι N F v p lo S I H ∧ chC h H := by
  obtain ⟨c1, c2, ⟨a, c3, b1, b2, b3, b4, ⟨⟨e1, b5⟩, ⟨e2, b6⟩, ⟨e3, b7⟩⟩, _, _⟩, c4⟩ := hC
  obtain ⟨hD, hp, hl, hl2⟩ := c4.sh (v := v) c2.1.1 c2.1.2 c3
  have hq : ∀ q, q < 56 ∨ 63 ≤ q → ex_g H q = ex_g h q := hc.2.2
  refine ⟨⟨c1, c2, ⟨a, c3, (hq _ (by omega)).trans b1, (hq _ (by omega)).trans b2, b3.fr (fun q z1 z2 => hq q (by omega)), (hq _ (by omega)).trans b4, ⟨⟨e1, (hq _ (by omega)).trans b5⟩, ⟨e2, (hq _ (by omega)).trans b6⟩, ⟨e3, (hq _ (by omega)).trans b7⟩⟩, ho, hB⟩, ?_⟩, chC.same hc.1 hc.2.1 (fun q z => hq q (by omega))⟩
  exact c4.fr (v := v) hc.1 c2.1.1 c2.1.2 c3 (hD.fr (v := v) c2.1.1 c2.1.2 (fun q z1 z2 => hq q (by omega))) (fun q z1 _ => hq q (by omega))
/-- the state alone has changed -/
theorem CX.st {w b p' lo' : Nat} {S' : Nat → Nat → Nat} (hC : CX ρ ι N F v p lo S I h) (hb : ρ w = some b) (hO : okSt (w, p', lo', S')) (hS : STT 42 b p' lo' S' H) (hc : chA 42 h H) : CX ρ ι N F w p' lo' S' I H ∧ chC h H := by
  obtain ⟨c1, c2, ⟨a, c3, b1, b2, b3, b4, ⟨⟨e1, b5⟩, ⟨e2, b6⟩, ⟨e3, b7⟩⟩, ⟨d, r, n, b8⟩, ⟨T, b9⟩⟩, c4⟩ := hC
  obtain ⟨hD, hp, hl, hl2⟩ := c4.sh (v := w) hO.1.1 hO.1.2 hb
  try dsimp only at hl hl2
  have hq : ∀ q, q < 42 ∨ 51 ≤ q → ex_g H q = ex_g h q := hc.2.2
  refine ⟨⟨c1, hO, ⟨b, hb, (hq _ (by omega)).trans b1, (hq _ (by omega)).trans b2, hS, (hq _ (by omega)).trans b4, ⟨⟨e1, (hq _ (by omega)).trans b5⟩, ⟨e2, (hq _ (by omega)).trans b6⟩, ⟨e3, (hq _ (by omega)).trans b7⟩⟩, ⟨d, r, n, (hq _ (by omega)).trans b8⟩, ⟨T, b9.fr (fun q z1 z2 => hq q (by omega))⟩⟩, ?_⟩, chC.same hc.1 hc.2.1 (fun q z => hq q (by omega))⟩
  exact c4.fr (v := w) hc.1 hO.1.1 hO.1.2 hb (hD.fr (v := w) hO.1.1 hO.1.2 (fun q z1 z2 => hq q (by omega))) (fun q z1 _ => hq q (by omega))
theorem CX.stt (hC : CX ρ ι N F v p lo S I h) (ha : ρ v = some a) : STT 42 a p lo S h := by
  obtain ⟨_, _, ⟨a', c3, _, _, b3, _⟩, _⟩ := hC
  rw [ha] at c3
  cases c3
  exact b3
theorem x_form {x y z : Int32} (hC : CX ρ ι N F v p lo S I h) (hX : X (some (.int (aFo v p lo x y z))) h) : ex_W 81 0 [.ref 1, .int x, .int y, .int z, oU] [] h X := by
  obtain ⟨a, fc, w', fp, ha, hD, hpl, g1, g42, g43, g44, hfp, g45, ga, ga1, ga4, hfc, ga5, gp, gq⟩ := hC.get
  have h1 := hC.2.1.1.1
  have h2 := hC.2.1.1.2
  obtain ⟨_, ⟨hp, hp2, hpr⟩, hlo, hok⟩ := hC.2.1
  try dsimp only at h1 h2 hp hp2 hpr hlo hok
  have hTc := tC_le h1 h2
  obtain ⟨_, _, _, gh, gt⟩ := id hD
  unfold aFo at hX
  simp only [s81_0, s81_1, s81_2, s81_5, s81_8, s81_10, s81_11, s81_12, s81_15, s81_18, s81_21, s81_22, s81_23, s81_25, s81_26, s81_27, s81_29, s81_32, s81_33, s81_34, s81_37, s81_40, s81_41, s81_42, s81_44, s81_47, s81_48, s81_49, s81_52, s81_55, s81_57, s81_58, s81_59, s81_62, s81_65, s81_67, s81_70, s81_71, s81_72, s81_74, s81_77, s81_78, s81_79, s81_82, is_O, opt_s, opt_n, cat_0, cat_i, cat_r, true_and, Nat.zero_le, Nat.reduceAdd, Nat.reduceLeDiff, al_I, as_I, rl_R, ln_I, ln_R, nI_add, pk_mul, g_set, set_set, not_false_eq_true, gf0_0, gf0_1, gf0_2, gf1_0, gf1_1, gf1_2, gf1_3, gf1_4, gf1_5, gf1_6, gf1_7, gf1_8, gf1_9, gf1_10, gf1_11, gf2_0, gf2_1, gf2_2, gf3_0, gf3_1, gf4_0, gf4_1, gf4_2, gf5_0, gf5_1, gf5_2, gf5_3, gf6_0, gf6_1, gf6_2, gf6_3, gf6_4, gf6_5, gf6_6, gf7_0, gf7_1, gf7_2, gf7_3, gf7_4, gf7_5, pf0_0, pf0_1, pf0_2, pf1_0, pf1_1, pf1_2, pf1_3, pf1_4, pf1_5, pf1_6, pf1_7, pf1_8, pf1_9, pf1_10, pf1_11, pf2_0, pf2_1, pf2_2, pf3_0, pf3_1, pf4_0, pf4_1, pf4_2, pf5_0, pf5_1, pf5_2, pf5_3, pf6_0, pf6_1, pf6_2, pf6_3, pf6_4, pf6_5, pf6_6, pf7_0, pf7_1, pf7_2, pf7_3, pf7_4, pf7_5, g1]
  refine m_cH hC ?_
  by_cases hx : isC v x
  · obtain ⟨hr, x3⟩ := isC_e h2 hx
    obtain ⟨_, _, k2, k3⟩ := tHf0 h1 h2 hr
    obtain ⟨c2, c3, c4, c5, c6, ρt, t1, t2, t3⟩ := (gt _ hr).hv h1 h2 hr
    have hr5 : ix x < v + 1 := by have := hr.1; omega
    rw [if_pos hx] at hX
    simp only [s81_0, s81_1, s81_2, s81_5, s81_8, s81_10, s81_11, s81_12, s81_15, s81_18, s81_21, s81_22, s81_23, s81_25, s81_26, s81_27, s81_29, s81_32, s81_33, s81_34, s81_37, s81_40, s81_41, s81_42, s81_44, s81_47, s81_48, s81_49, s81_52, s81_55, s81_57, s81_58, s81_59, s81_62, s81_65, s81_67, s81_70, s81_71, s81_72, s81_74, s81_77, s81_78, s81_79, s81_82, is_O, opt_s, opt_n, cat_0, cat_i, cat_r, true_and, Nat.zero_le, Nat.reduceAdd, Nat.reduceLeDiff, al_I, as_I, rl_R, ln_I, ln_R, nI_add, pk_mul, g_set, set_set, not_false_eq_true, gf0_0, gf0_1, gf0_2, gf1_0, gf1_1, gf1_2, gf1_3, gf1_4, gf1_5, gf1_6, gf1_7, gf1_8, gf1_9, gf1_10, gf1_11, gf2_0, gf2_1, gf2_2, gf3_0, gf3_1, gf4_0, gf4_1, gf4_2, gf5_0, gf5_1, gf5_2, gf5_3, gf6_0, gf6_1, gf6_2, gf6_3, gf6_4, gf6_5, gf6_6, gf7_0, gf7_1, gf7_2, gf7_3, gf7_4, gf7_5, pf0_0, pf0_1, pf0_2, pf1_0, pf1_1, pf1_2, pf1_3, pf1_4, pf1_5, pf1_6, pf1_7, pf1_8, pf1_9, pf1_10, pf1_11, pf2_0, pf2_1, pf2_2, pf3_0, pf3_1, pf4_0, pf4_1, pf4_2, pf5_0, pf5_1, pf5_2, pf5_3, pf6_0, pf6_1, pf6_2, pf6_3, pf6_4, pf6_5, pf6_6, pf7_0, pf7_1, pf7_2, pf7_3, pf7_4, pf7_5, if_pos hx, i10, i10n, not_true_eq_false, if_false, if_true, g1, g42, ga, gh]
    rw [← x3]
    simp only [xi_n hr5 (show v + 1 < 2147483648 by omega), if_pos hr, va_rf, s81_0, s81_1, s81_2, s81_5, s81_8, s81_10, s81_11, s81_12, s81_15, s81_18, s81_21, s81_22, s81_23, s81_25, s81_26, s81_27, s81_29, s81_32, s81_33, s81_34, s81_37, s81_40, s81_41, s81_42, s81_44, s81_47, s81_48, s81_49, s81_52, s81_55, s81_57, s81_58, s81_59, s81_62, s81_65, s81_67, s81_70, s81_71, s81_72, s81_74, s81_77, s81_78, s81_79, s81_82, is_O, opt_s, opt_n, cat_0, cat_i, cat_r, true_and, Nat.zero_le, Nat.reduceAdd, Nat.reduceLeDiff, al_I, as_I, rl_R, ln_I, ln_R, nI_add, pk_mul, g_set, set_set, not_false_eq_true, gf0_0, gf0_1, gf0_2, gf1_0, gf1_1, gf1_2, gf1_3, gf1_4, gf1_5, gf1_6, gf1_7, gf1_8, gf1_9, gf1_10, gf1_11, gf2_0, gf2_1, gf2_2, gf3_0, gf3_1, gf4_0, gf4_1, gf4_2, gf5_0, gf5_1, gf5_2, gf5_3, gf6_0, gf6_1, gf6_2, gf6_3, gf6_4, gf6_5, gf6_6, gf7_0, gf7_1, gf7_2, gf7_3, gf7_4, gf7_5, pf0_0, pf0_1, pf0_2, pf1_0, pf1_1, pf1_2, pf1_3, pf1_4, pf1_5, pf1_6, pf1_7, pf1_8, pf1_9, pf1_10, pf1_11, pf2_0, pf2_1, pf2_2, pf3_0, pf3_1, pf4_0, pf4_1, pf4_2, pf5_0, pf5_1, pf5_2, pf5_3, pf6_0, pf6_1, pf6_2, pf6_3, pf6_4, pf6_5, pf6_6, pf7_0, pf7_1, pf7_2, pf7_3, pf7_4, pf7_5, t1, pk_sub k2, m_inW, g1, g42, g43]
    by_cases hy : isW 0 (tHn v (ix x) - 1) y
    · by_cases hz : isW 0 (tHn v (ix x) - 1) z
      · obtain ⟨_, y2, y3⟩ := isW_e (by decide) (by omega) hy
        obtain ⟨_, z2, z3⟩ := isW_e (by decide) (by omega) hz
        have hi : ix y < tHn v (ix x) := by omega
        have hj : ix z < tHn v (ix x) := by omega
        obtain ⟨ri, fi, e1, e2⟩ := t3 _ hi
        obtain ⟨rj, fj, e3, e4⟩ := t3 _ hj
        rw [if_pos ⟨hy, hz⟩] at hX
        simp only [if_pos hy, if_pos hz, i10, i10n, not_true_eq_false, if_false, if_true, t2]
        rw [← y3, ← z3]
        simp only [xi_n hi (show tHn v (ix x) < 2147483648 by omega), xi_n hj (show tHn v (ix x) < 2147483648 by omega), vr_s ri, vr_s rj, s81_0, s81_1, s81_2, s81_5, s81_8, s81_10, s81_11, s81_12, s81_15, s81_18, s81_21, s81_22, s81_23, s81_25, s81_26, s81_27, s81_29, s81_32, s81_33, s81_34, s81_37, s81_40, s81_41, s81_42, s81_44, s81_47, s81_48, s81_49, s81_52, s81_55, s81_57, s81_58, s81_59, s81_62, s81_65, s81_67, s81_70, s81_71, s81_72, s81_74, s81_77, s81_78, s81_79, s81_82, is_O, opt_s, opt_n, cat_0, cat_i, cat_r, true_and, Nat.zero_le, Nat.reduceAdd, Nat.reduceLeDiff, al_I, as_I, rl_R, ln_I, ln_R, nI_add, pk_mul, g_set, set_set, not_false_eq_true, gf0_0, gf0_1, gf0_2, gf1_0, gf1_1, gf1_2, gf1_3, gf1_4, gf1_5, gf1_6, gf1_7, gf1_8, gf1_9, gf1_10, gf1_11, gf2_0, gf2_1, gf2_2, gf3_0, gf3_1, gf4_0, gf4_1, gf4_2, gf5_0, gf5_1, gf5_2, gf5_3, gf6_0, gf6_1, gf6_2, gf6_3, gf6_4, gf6_5, gf6_6, gf7_0, gf7_1, gf7_2, gf7_3, gf7_4, gf7_5, pf0_0, pf0_1, pf0_2, pf1_0, pf1_1, pf1_2, pf1_3, pf1_4, pf1_5, pf1_6, pf1_7, pf1_8, pf1_9, pf1_10, pf1_11, pf2_0, pf2_1, pf2_2, pf3_0, pf3_1, pf4_0, pf4_1, pf4_2, pf5_0, pf5_1, pf5_2, pf5_3, pf6_0, pf6_1, pf6_2, pf6_3, pf6_4, pf6_5, pf6_6, pf7_0, pf7_1, pf7_2, pf7_3, pf7_4, pf7_5, t1, t2]
        refine m_form h1 h2 hr hi hj e1 e3 e2 e4 g43 g44 hfp ?_
        simp only [s81_0, s81_1, s81_2, s81_5, s81_8, s81_10, s81_11, s81_12, s81_15, s81_18, s81_21, s81_22, s81_23, s81_25, s81_26, s81_27, s81_29, s81_32, s81_33, s81_34, s81_37, s81_40, s81_41, s81_42, s81_44, s81_47, s81_48, s81_49, s81_52, s81_55, s81_57, s81_58, s81_59, s81_62, s81_65, s81_67, s81_70, s81_71, s81_72, s81_74, s81_77, s81_78, s81_79, s81_82, is_O, opt_s, opt_n, cat_0, cat_i, cat_r, true_and, Nat.zero_le, Nat.reduceAdd, Nat.reduceLeDiff, al_I, as_I, rl_R, ln_I, ln_R, nI_add, pk_mul, g_set, set_set, not_false_eq_true, gf0_0, gf0_1, gf0_2, gf1_0, gf1_1, gf1_2, gf1_3, gf1_4, gf1_5, gf1_6, gf1_7, gf1_8, gf1_9, gf1_10, gf1_11, gf2_0, gf2_1, gf2_2, gf3_0, gf3_1, gf4_0, gf4_1, gf4_2, gf5_0, gf5_1, gf5_2, gf5_3, gf6_0, gf6_1, gf6_2, gf6_3, gf6_4, gf6_5, gf6_6, gf7_0, gf7_1, gf7_2, gf7_3, gf7_4, gf7_5, pf0_0, pf0_1, pf0_2, pf1_0, pf1_1, pf1_2, pf1_3, pf1_4, pf1_5, pf1_6, pf1_7, pf1_8, pf1_9, pf1_10, pf1_11, pf2_0, pf2_1, pf2_2, pf3_0, pf3_1, pf4_0, pf4_1, pf4_2, pf5_0, pf5_1, pf5_2, pf5_3, pf6_0, pf6_1, pf6_2, pf6_3, pf6_4, pf6_5, pf6_6, pf7_0, pf7_1, pf7_2, pf7_3, pf7_4, pf7_5]
        exact hX
      · rw [if_neg (fun q => hz q.2)] at hX
        simp only [if_pos hy, if_neg hz, i10, i10n, not_true_eq_false, if_false, if_true]
        exact hX
    · rw [if_neg (fun q => hy q.1)] at hX
      simp only [if_neg hy, i10, i10n, not_true_eq_false, if_false, if_true]
      exact hX
  · rw [if_neg hx] at hX
    simp only [s81_0, s81_1, s81_2, s81_5, s81_8, s81_10, s81_11, s81_12, s81_15, s81_18, s81_21, s81_22, s81_23, s81_25, s81_26, s81_27, s81_29, s81_32, s81_33, s81_34, s81_37, s81_40, s81_41, s81_42, s81_44, s81_47, s81_48, s81_49, s81_52, s81_55, s81_57, s81_58, s81_59, s81_62, s81_65, s81_67, s81_70, s81_71, s81_72, s81_74, s81_77, s81_78, s81_79, s81_82, is_O, opt_s, opt_n, cat_0, cat_i, cat_r, true_and, Nat.zero_le, Nat.reduceAdd, Nat.reduceLeDiff, al_I, as_I, rl_R, ln_I, ln_R, nI_add, pk_mul, g_set, set_set, not_false_eq_true, gf0_0, gf0_1, gf0_2, gf1_0, gf1_1, gf1_2, gf1_3, gf1_4, gf1_5, gf1_6, gf1_7, gf1_8, gf1_9, gf1_10, gf1_11, gf2_0, gf2_1, gf2_2, gf3_0, gf3_1, gf4_0, gf4_1, gf4_2, gf5_0, gf5_1, gf5_2, gf5_3, gf6_0, gf6_1, gf6_2, gf6_3, gf6_4, gf6_5, gf6_6, gf7_0, gf7_1, gf7_2, gf7_3, gf7_4, gf7_5, pf0_0, pf0_1, pf0_2, pf1_0, pf1_1, pf1_2, pf1_3, pf1_4, pf1_5, pf1_6, pf1_7, pf1_8, pf1_9, pf1_10, pf1_11, pf2_0, pf2_1, pf2_2, pf3_0, pf3_1, pf4_0, pf4_1, pf4_2, pf5_0, pf5_1, pf5_2, pf5_3, pf6_0, pf6_1, pf6_2, pf6_3, pf6_4, pf6_5, pf6_6, pf7_0, pf7_1, pf7_2, pf7_3, pf7_4, pf7_5, if_neg hx, i10, i10n, not_true_eq_false, if_false, if_true]
    exact hX
theorem x_cell {x y : Int32} (hC : CX ρ ι N F v p lo S I h) (hX : ∀ H, chC h H → CX ρ ι N F v p lo S I H → X (some (.int (aCe v p lo x y))) H) : ex_W 80 0 [.ref 1, .int x, .int y, oU] [] h X := by
  obtain ⟨a, fc, w', fp, ha, hD, hpl, g1, g42, g43, g44, hfp, g45, ga, ga1, ga4, hfc, ga5, gp, gq⟩ := hC.get
  have h1 := hC.2.1.1.1
  have h2 := hC.2.1.1.2
  obtain ⟨_, ⟨hp, hp2, hpr⟩, hlo, hok⟩ := hC.2.1
  try dsimp only at h1 h2 hp hp2 hpr hlo hok
  have hTc := tC_le h1 h2
  obtain ⟨_, _, _, gh, gt⟩ := id hD
  unfold aCe at hX
  simp only [s80_0, s80_1, s80_2, s80_5, s80_8, s80_9, s80_10, s80_11, s80_14, s80_17, s80_19, s80_20, s80_21, s80_24, s80_27, s80_30, s80_31, s80_32, s80_33, s80_34, s80_37, s80_38, s80_41, s80_42, s80_43, s80_46, s80_47, s80_50, s80_53, s80_54, s80_57, s80_58, s80_61, s80_62, s80_65, s80_68, s80_71, s80_72, s80_73, s80_76, s80_77, s80_80, s80_83, s80_86, s80_87, s80_90, s80_93, is_O, opt_s, opt_n, cat_0, cat_i, cat_r, true_and, Nat.zero_le, Nat.reduceAdd, Nat.reduceLeDiff, al_I, as_I, rl_R, ln_I, ln_R, nI_add, pk_mul, g_set, set_set, not_false_eq_true, gf0_0, gf0_1, gf0_2, gf1_0, gf1_1, gf1_2, gf1_3, gf1_4, gf1_5, gf1_6, gf1_7, gf1_8, gf1_9, gf1_10, gf1_11, gf2_0, gf2_1, gf2_2, gf3_0, gf3_1, gf4_0, gf4_1, gf4_2, gf5_0, gf5_1, gf5_2, gf5_3, gf6_0, gf6_1, gf6_2, gf6_3, gf6_4, gf6_5, gf6_6, gf7_0, gf7_1, gf7_2, gf7_3, gf7_4, gf7_5, pf0_0, pf0_1, pf0_2, pf1_0, pf1_1, pf1_2, pf1_3, pf1_4, pf1_5, pf1_6, pf1_7, pf1_8, pf1_9, pf1_10, pf1_11, pf2_0, pf2_1, pf2_2, pf3_0, pf3_1, pf4_0, pf4_1, pf4_2, pf5_0, pf5_1, pf5_2, pf5_3, pf6_0, pf6_1, pf6_2, pf6_3, pf6_4, pf6_5, pf6_6, pf7_0, pf7_1, pf7_2, pf7_3, pf7_4, pf7_5, g1]
  refine m_cH hC ?_
  by_cases hx : isC v x
  · by_cases hy : isW 0 2 y
    · obtain ⟨hr, x3⟩ := isC_e h2 hx
      obtain ⟨_, _, k2, k3⟩ := tHf0 h1 h2 hr
      obtain ⟨c2, c3, c4, c5, c6, ρt, t1, t2, t3⟩ := (gt _ hr).hv h1 h2 hr
      obtain ⟨o1, o2, _, _⟩ := hO_r h1 h2 hr
      have hr5 : ix x < v + 1 := by have := hr.1; omega
      rw [if_pos ⟨hx, hy⟩] at hX
      simp only [s80_0, s80_1, s80_2, s80_5, s80_8, s80_9, s80_10, s80_11, s80_14, s80_17, s80_19, s80_20, s80_21, s80_24, s80_27, s80_30, s80_31, s80_32, s80_33, s80_34, s80_37, s80_38, s80_41, s80_42, s80_43, s80_46, s80_47, s80_50, s80_53, s80_54, s80_57, s80_58, s80_61, s80_62, s80_65, s80_68, s80_71, s80_72, s80_73, s80_76, s80_77, s80_80, s80_83, s80_86, s80_87, s80_90, s80_93, is_O, opt_s, opt_n, cat_0, cat_i, cat_r, true_and, Nat.zero_le, Nat.reduceAdd, Nat.reduceLeDiff, al_I, as_I, rl_R, ln_I, ln_R, nI_add, pk_mul, g_set, set_set, not_false_eq_true, gf0_0, gf0_1, gf0_2, gf1_0, gf1_1, gf1_2, gf1_3, gf1_4, gf1_5, gf1_6, gf1_7, gf1_8, gf1_9, gf1_10, gf1_11, gf2_0, gf2_1, gf2_2, gf3_0, gf3_1, gf4_0, gf4_1, gf4_2, gf5_0, gf5_1, gf5_2, gf5_3, gf6_0, gf6_1, gf6_2, gf6_3, gf6_4, gf6_5, gf6_6, gf7_0, gf7_1, gf7_2, gf7_3, gf7_4, gf7_5, pf0_0, pf0_1, pf0_2, pf1_0, pf1_1, pf1_2, pf1_3, pf1_4, pf1_5, pf1_6, pf1_7, pf1_8, pf1_9, pf1_10, pf1_11, pf2_0, pf2_1, pf2_2, pf3_0, pf3_1, pf4_0, pf4_1, pf4_2, pf5_0, pf5_1, pf5_2, pf5_3, pf6_0, pf6_1, pf6_2, pf6_3, pf6_4, pf6_5, pf6_6, pf7_0, pf7_1, pf7_2, pf7_3, pf7_4, pf7_5, if_pos hx, if_pos hy, m_inW, i10, i10n, not_true_eq_false, if_false, if_true, g1, g42, ga, gh]
      rw [← x3]
      simp only [xi_n hr5 (show v + 1 < 2147483648 by omega), if_pos hr, va_rf, s80_0, s80_1, s80_2, s80_5, s80_8, s80_9, s80_10, s80_11, s80_14, s80_17, s80_19, s80_20, s80_21, s80_24, s80_27, s80_30, s80_31, s80_32, s80_33, s80_34, s80_37, s80_38, s80_41, s80_42, s80_43, s80_46, s80_47, s80_50, s80_53, s80_54, s80_57, s80_58, s80_61, s80_62, s80_65, s80_68, s80_71, s80_72, s80_73, s80_76, s80_77, s80_80, s80_83, s80_86, s80_87, s80_90, s80_93, is_O, opt_s, opt_n, cat_0, cat_i, cat_r, true_and, Nat.zero_le, Nat.reduceAdd, Nat.reduceLeDiff, al_I, as_I, rl_R, ln_I, ln_R, nI_add, pk_mul, g_set, set_set, not_false_eq_true, gf0_0, gf0_1, gf0_2, gf1_0, gf1_1, gf1_2, gf1_3, gf1_4, gf1_5, gf1_6, gf1_7, gf1_8, gf1_9, gf1_10, gf1_11, gf2_0, gf2_1, gf2_2, gf3_0, gf3_1, gf4_0, gf4_1, gf4_2, gf5_0, gf5_1, gf5_2, gf5_3, gf6_0, gf6_1, gf6_2, gf6_3, gf6_4, gf6_5, gf6_6, gf7_0, gf7_1, gf7_2, gf7_3, gf7_4, gf7_5, pf0_0, pf0_1, pf0_2, pf1_0, pf1_1, pf1_2, pf1_3, pf1_4, pf1_5, pf1_6, pf1_7, pf1_8, pf1_9, pf1_10, pf1_11, pf2_0, pf2_1, pf2_2, pf3_0, pf3_1, pf4_0, pf4_1, pf4_2, pf5_0, pf5_1, pf5_2, pf5_3, pf6_0, pf6_1, pf6_2, pf6_3, pf6_4, pf6_5, pf6_6, pf7_0, pf7_1, pf7_2, pf7_3, pf7_4, pf7_5, t1, g1, g42, g43]
      obtain ⟨_, _, ⟨_, _, _, _, _, _, _, ⟨d0, r0, n0, gtb⟩, ⟨T0, gTB⟩⟩, _⟩ := id hC
      by_cases y0 : y = nI 0
      · rw [if_pos y0] at hX
        rw [if_neg (fun q => q y0)]
        exact hX h chC.rfl' hC
      · rw [if_neg y0] at hX
        rw [if_pos y0]
        simp only [gtb, is_O, opt_s, opt_n, cat_0, cat_i, cat_r, true_and, Nat.zero_le, Nat.reduceAdd, Nat.reduceLeDiff, al_I, as_I, rl_R, ln_I, ln_R, nI_add, pk_mul, g_set, set_set, not_false_eq_true, gf0_0, gf0_1, gf0_2, gf1_0, gf1_1, gf1_2, gf1_3, gf1_4, gf1_5, gf1_6, gf1_7, gf1_8, gf1_9, gf1_10, gf1_11, gf2_0, gf2_1, gf2_2, gf3_0, gf3_1, gf4_0, gf4_1, gf4_2, gf5_0, gf5_1, gf5_2, gf5_3, gf6_0, gf6_1, gf6_2, gf6_3, gf6_4, gf6_5, gf6_6, gf7_0, gf7_1, gf7_2, gf7_3, gf7_4, gf7_5, pf0_0, pf0_1, pf0_2, pf1_0, pf1_1, pf1_2, pf1_3, pf1_4, pf1_5, pf1_6, pf1_7, pf1_8, pf1_9, pf1_10, pf1_11, pf2_0, pf2_1, pf2_2, pf3_0, pf3_1, pf4_0, pf4_1, pf4_2, pf5_0, pf5_1, pf5_2, pf5_3, pf6_0, pf6_1, pf6_2, pf6_3, pf6_4, pf6_5, pf6_6, pf7_0, pf7_1, pf7_2, pf7_3, pf7_4, pf7_5]
        refine m_tFill h1 h2 hr g43 g44 hfp (gt _ hr) (by omega) (by omega) (by omega) gtb gTB (fun K kc ko kB => ?_)
        obtain ⟨e1, e2⟩ := hC.tab kc ⟨_, _, _, ko⟩ ⟨_, kB.mono (Nat.zero_le _)⟩
        obtain ⟨_, _, _, _, _, _, _, n1, n42, n43, _⟩ := e1.get
        simp only [s80_0, s80_1, s80_2, s80_5, s80_8, s80_9, s80_10, s80_11, s80_14, s80_17, s80_19, s80_20, s80_21, s80_24, s80_27, s80_30, s80_31, s80_32, s80_33, s80_34, s80_37, s80_38, s80_41, s80_42, s80_43, s80_46, s80_47, s80_50, s80_53, s80_54, s80_57, s80_58, s80_61, s80_62, s80_65, s80_68, s80_71, s80_72, s80_73, s80_76, s80_77, s80_80, s80_83, s80_86, s80_87, s80_90, s80_93, is_O, opt_s, opt_n, cat_0, cat_i, cat_r, true_and, Nat.zero_le, Nat.reduceAdd, Nat.reduceLeDiff, al_I, as_I, rl_R, ln_I, ln_R, nI_add, pk_mul, g_set, set_set, not_false_eq_true, gf0_0, gf0_1, gf0_2, gf1_0, gf1_1, gf1_2, gf1_3, gf1_4, gf1_5, gf1_6, gf1_7, gf1_8, gf1_9, gf1_10, gf1_11, gf2_0, gf2_1, gf2_2, gf3_0, gf3_1, gf4_0, gf4_1, gf4_2, gf5_0, gf5_1, gf5_2, gf5_3, gf6_0, gf6_1, gf6_2, gf6_3, gf6_4, gf6_5, gf6_6, gf7_0, gf7_1, gf7_2, gf7_3, gf7_4, gf7_5, pf0_0, pf0_1, pf0_2, pf1_0, pf1_1, pf1_2, pf1_3, pf1_4, pf1_5, pf1_6, pf1_7, pf1_8, pf1_9, pf1_10, pf1_11, pf2_0, pf2_1, pf2_2, pf3_0, pf3_1, pf4_0, pf4_1, pf4_2, pf5_0, pf5_1, pf5_2, pf5_3, pf6_0, pf6_1, pf6_2, pf6_3, pf6_4, pf6_5, pf6_6, pf7_0, pf7_1, pf7_2, pf7_3, pf7_4, pf7_5, n1, n42, n43, ko]
        refine m_tElim h1 h2 hr hp hp2 hpr n43 (by omega) ko kB (fun G gc go gB => ?_)
        obtain ⟨f1, f2⟩ := e1.tab gc ⟨_, _, _, go⟩ gB
        obtain ⟨_, _, _, _, _, _, _, m1, m42, m43, _⟩ := f1.get
        have hX := hX G (chC.same (gc.1.trans kc.1) (gc.2.1.trans kc.2.1) (fun q hq => (f2.1 q hq).trans (e2.1 q hq))) f1
        simp only [s80_0, s80_1, s80_2, s80_5, s80_8, s80_9, s80_10, s80_11, s80_14, s80_17, s80_19, s80_20, s80_21, s80_24, s80_27, s80_30, s80_31, s80_32, s80_33, s80_34, s80_37, s80_38, s80_41, s80_42, s80_43, s80_46, s80_47, s80_50, s80_53, s80_54, s80_57, s80_58, s80_61, s80_62, s80_65, s80_68, s80_71, s80_72, s80_73, s80_76, s80_77, s80_80, s80_83, s80_86, s80_87, s80_90, s80_93, is_O, opt_s, opt_n, cat_0, cat_i, cat_r, true_and, Nat.zero_le, Nat.reduceAdd, Nat.reduceLeDiff, al_I, as_I, rl_R, ln_I, ln_R, nI_add, pk_mul, g_set, set_set, not_false_eq_true, gf0_0, gf0_1, gf0_2, gf1_0, gf1_1, gf1_2, gf1_3, gf1_4, gf1_5, gf1_6, gf1_7, gf1_8, gf1_9, gf1_10, gf1_11, gf2_0, gf2_1, gf2_2, gf3_0, gf3_1, gf4_0, gf4_1, gf4_2, gf5_0, gf5_1, gf5_2, gf5_3, gf6_0, gf6_1, gf6_2, gf6_3, gf6_4, gf6_5, gf6_6, gf7_0, gf7_1, gf7_2, gf7_3, gf7_4, gf7_5, pf0_0, pf0_1, pf0_2, pf1_0, pf1_1, pf1_2, pf1_3, pf1_4, pf1_5, pf1_6, pf1_7, pf1_8, pf1_9, pf1_10, pf1_11, pf2_0, pf2_1, pf2_2, pf3_0, pf3_1, pf4_0, pf4_1, pf4_2, pf5_0, pf5_1, pf5_2, pf5_3, pf6_0, pf6_1, pf6_2, pf6_3, pf6_4, pf6_5, pf6_6, pf7_0, pf7_1, pf7_2, pf7_3, pf7_4, pf7_5, m1, go]
        by_cases y1 : y = nI 1
        · rw [if_pos y1] at hX
          rw [if_neg (fun q => q y1)]
          exact hX
        · rw [if_neg y1] at hX
          rw [if_pos y1]
          exact hX
    · rw [if_neg (fun q => hy q.2)] at hX
      simp only [s80_0, s80_1, s80_2, s80_5, s80_8, s80_9, s80_10, s80_11, s80_14, s80_17, s80_19, s80_20, s80_21, s80_24, s80_27, s80_30, s80_31, s80_32, s80_33, s80_34, s80_37, s80_38, s80_41, s80_42, s80_43, s80_46, s80_47, s80_50, s80_53, s80_54, s80_57, s80_58, s80_61, s80_62, s80_65, s80_68, s80_71, s80_72, s80_73, s80_76, s80_77, s80_80, s80_83, s80_86, s80_87, s80_90, s80_93, is_O, opt_s, opt_n, cat_0, cat_i, cat_r, true_and, Nat.zero_le, Nat.reduceAdd, Nat.reduceLeDiff, al_I, as_I, rl_R, ln_I, ln_R, nI_add, pk_mul, g_set, set_set, not_false_eq_true, gf0_0, gf0_1, gf0_2, gf1_0, gf1_1, gf1_2, gf1_3, gf1_4, gf1_5, gf1_6, gf1_7, gf1_8, gf1_9, gf1_10, gf1_11, gf2_0, gf2_1, gf2_2, gf3_0, gf3_1, gf4_0, gf4_1, gf4_2, gf5_0, gf5_1, gf5_2, gf5_3, gf6_0, gf6_1, gf6_2, gf6_3, gf6_4, gf6_5, gf6_6, gf7_0, gf7_1, gf7_2, gf7_3, gf7_4, gf7_5, pf0_0, pf0_1, pf0_2, pf1_0, pf1_1, pf1_2, pf1_3, pf1_4, pf1_5, pf1_6, pf1_7, pf1_8, pf1_9, pf1_10, pf1_11, pf2_0, pf2_1, pf2_2, pf3_0, pf3_1, pf4_0, pf4_1, pf4_2, pf5_0, pf5_1, pf5_2, pf5_3, pf6_0, pf6_1, pf6_2, pf6_3, pf6_4, pf6_5, pf6_6, pf7_0, pf7_1, pf7_2, pf7_3, pf7_4, pf7_5, if_pos hx, if_neg hy, m_inW, i10, i10n, not_true_eq_false, if_false, if_true]
      exact hX h chC.rfl' hC
  · rw [if_neg (fun q => hx q.1)] at hX
    simp only [s80_0, s80_1, s80_2, s80_5, s80_8, s80_9, s80_10, s80_11, s80_14, s80_17, s80_19, s80_20, s80_21, s80_24, s80_27, s80_30, s80_31, s80_32, s80_33, s80_34, s80_37, s80_38, s80_41, s80_42, s80_43, s80_46, s80_47, s80_50, s80_53, s80_54, s80_57, s80_58, s80_61, s80_62, s80_65, s80_68, s80_71, s80_72, s80_73, s80_76, s80_77, s80_80, s80_83, s80_86, s80_87, s80_90, s80_93, is_O, opt_s, opt_n, cat_0, cat_i, cat_r, true_and, Nat.zero_le, Nat.reduceAdd, Nat.reduceLeDiff, al_I, as_I, rl_R, ln_I, ln_R, nI_add, pk_mul, g_set, set_set, not_false_eq_true, gf0_0, gf0_1, gf0_2, gf1_0, gf1_1, gf1_2, gf1_3, gf1_4, gf1_5, gf1_6, gf1_7, gf1_8, gf1_9, gf1_10, gf1_11, gf2_0, gf2_1, gf2_2, gf3_0, gf3_1, gf4_0, gf4_1, gf4_2, gf5_0, gf5_1, gf5_2, gf5_3, gf6_0, gf6_1, gf6_2, gf6_3, gf6_4, gf6_5, gf6_6, gf7_0, gf7_1, gf7_2, gf7_3, gf7_4, gf7_5, pf0_0, pf0_1, pf0_2, pf1_0, pf1_1, pf1_2, pf1_3, pf1_4, pf1_5, pf1_6, pf1_7, pf1_8, pf1_9, pf1_10, pf1_11, pf2_0, pf2_1, pf2_2, pf3_0, pf3_1, pf4_0, pf4_1, pf4_2, pf5_0, pf5_1, pf5_2, pf5_3, pf6_0, pf6_1, pf6_2, pf6_3, pf6_4, pf6_5, pf6_6, pf7_0, pf7_1, pf7_2, pf7_3, pf7_4, pf7_5, if_neg hx, i10, i10n, not_true_eq_false, if_false, if_true]
    exact hX h chC.rfl' hC
theorem x_prime {x y : Int32} (hC : CX ρ ι N F v p lo S I h) (hX1 : isPL x y → ∀ H, chC h H → CX ρ ι N F v (ix x) (ix y) (fun _ _ => 0) I H → X (some (.int (nI p))) H) (hX2 : ¬ isPL x y → X (some (.int (-2))) h) : ex_W 71 0 [.ref 1, .int x, .int y, oU] [] h X := by
  obtain ⟨a, fc, w', fp, ha, hD, hpl, g1, g42, g43, g44, hfp, g45, ga, ga1, ga4, hfc, ga5, gp, gq⟩ := hC.get
  have h1 := hC.2.1.1.1
  have h2 := hC.2.1.1.2
  obtain ⟨_, ⟨hp, hp2, hpr⟩, hlo, hok⟩ := hC.2.1
  try dsimp only at h1 h2 hp hp2 hpr hlo hok
  have hTc := tC_le h1 h2
  simp only [s71_0, s71_1, s71_4, s71_7, s71_8, s71_9, s71_10, s71_11, s71_12, s71_15, s71_18, s71_20, s71_21, s71_22, s71_25, s71_28, s71_31, s71_32, s71_33, s71_36, s71_39, s71_40, s71_41, s71_44, s71_45, s71_48, s71_51, s71_52, is_O, opt_s, opt_n, cat_0, cat_i, cat_r, true_and, Nat.zero_le, Nat.reduceAdd, Nat.reduceLeDiff, al_I, as_I, rl_R, ln_I, ln_R, nI_add, pk_mul, g_set, set_set, not_false_eq_true, gf0_0, gf0_1, gf0_2, gf1_0, gf1_1, gf1_2, gf1_3, gf1_4, gf1_5, gf1_6, gf1_7, gf1_8, gf1_9, gf1_10, gf1_11, gf2_0, gf2_1, gf2_2, gf3_0, gf3_1, gf4_0, gf4_1, gf4_2, gf5_0, gf5_1, gf5_2, gf5_3, gf6_0, gf6_1, gf6_2, gf6_3, gf6_4, gf6_5, gf6_6, gf7_0, gf7_1, gf7_2, gf7_3, gf7_4, gf7_5, pf0_0, pf0_1, pf0_2, pf1_0, pf1_1, pf1_2, pf1_3, pf1_4, pf1_5, pf1_6, pf1_7, pf1_8, pf1_9, pf1_10, pf1_11, pf2_0, pf2_1, pf2_2, pf3_0, pf3_1, pf4_0, pf4_1, pf4_2, pf5_0, pf5_1, pf5_2, pf5_3, pf6_0, pf6_1, pf6_2, pf6_3, pf6_4, pf6_5, pf6_6, pf7_0, pf7_1, pf7_2, pf7_3, pf7_4, pf7_5]
  refine m_cP ?_
  by_cases hx : isPr x
  · obtain ⟨q1, q2, q3⟩ := isW_e (by decide) (by decide) hx.1
    have e9 : x - nI 1 = nI (ix x - 1) := by
      have := pk_sub (show 1 ≤ ix x by omega)
      rw [q3] at this
      exact this
    simp only [s71_0, s71_1, s71_4, s71_7, s71_8, s71_9, s71_10, s71_11, s71_12, s71_15, s71_18, s71_20, s71_21, s71_22, s71_25, s71_28, s71_31, s71_32, s71_33, s71_36, s71_39, s71_40, s71_41, s71_44, s71_45, s71_48, s71_51, s71_52, is_O, opt_s, opt_n, cat_0, cat_i, cat_r, true_and, Nat.zero_le, Nat.reduceAdd, Nat.reduceLeDiff, al_I, as_I, rl_R, ln_I, ln_R, nI_add, pk_mul, g_set, set_set, not_false_eq_true, gf0_0, gf0_1, gf0_2, gf1_0, gf1_1, gf1_2, gf1_3, gf1_4, gf1_5, gf1_6, gf1_7, gf1_8, gf1_9, gf1_10, gf1_11, gf2_0, gf2_1, gf2_2, gf3_0, gf3_1, gf4_0, gf4_1, gf4_2, gf5_0, gf5_1, gf5_2, gf5_3, gf6_0, gf6_1, gf6_2, gf6_3, gf6_4, gf6_5, gf6_6, gf7_0, gf7_1, gf7_2, gf7_3, gf7_4, gf7_5, pf0_0, pf0_1, pf0_2, pf1_0, pf1_1, pf1_2, pf1_3, pf1_4, pf1_5, pf1_6, pf1_7, pf1_8, pf1_9, pf1_10, pf1_11, pf2_0, pf2_1, pf2_2, pf3_0, pf3_1, pf4_0, pf4_1, pf4_2, pf5_0, pf5_1, pf5_2, pf5_3, pf6_0, pf6_1, pf6_2, pf6_3, pf6_4, pf6_5, pf6_6, pf7_0, pf7_1, pf7_2, pf7_3, pf7_4, pf7_5, if_pos hx, i10, i10n, not_true_eq_false, if_false, if_true, e9, m_inW]
    by_cases hy : isW 0 (ix x - 1) y
    · obtain ⟨_, r2, r3⟩ := isW_e (by decide) (by omega) hy
      have hX := hX1 ⟨hx, hy⟩
      simp only [if_pos hy, i10, i10n, not_true_eq_false, if_false, if_true, g1, g42, g43, is_O, opt_s, opt_n, cat_0, cat_i, cat_r, true_and, Nat.zero_le, Nat.reduceAdd, Nat.reduceLeDiff, al_I, as_I, rl_R, ln_I, ln_R, nI_add, pk_mul, g_set, set_set, not_false_eq_true, gf0_0, gf0_1, gf0_2, gf1_0, gf1_1, gf1_2, gf1_3, gf1_4, gf1_5, gf1_6, gf1_7, gf1_8, gf1_9, gf1_10, gf1_11, gf2_0, gf2_1, gf2_2, gf3_0, gf3_1, gf4_0, gf4_1, gf4_2, gf5_0, gf5_1, gf5_2, gf5_3, gf6_0, gf6_1, gf6_2, gf6_3, gf6_4, gf6_5, gf6_6, gf7_0, gf7_1, gf7_2, gf7_3, gf7_4, gf7_5, pf0_0, pf0_1, pf0_2, pf1_0, pf1_1, pf1_2, pf1_3, pf1_4, pf1_5, pf1_6, pf1_7, pf1_8, pf1_9, pf1_10, pf1_11, pf2_0, pf2_1, pf2_2, pf3_0, pf3_1, pf4_0, pf4_1, pf4_2, pf5_0, pf5_1, pf5_2, pf5_3, pf6_0, pf6_1, pf6_2, pf6_3, pf6_4, pf6_5, pf6_6, pf7_0, pf7_1, pf7_2, pf7_3, pf7_4, pf7_5, s71_0, s71_1, s71_4, s71_7, s71_8, s71_9, s71_10, s71_11, s71_12, s71_15, s71_18, s71_20, s71_21, s71_22, s71_25, s71_28, s71_31, s71_32, s71_33, s71_36, s71_39, s71_40, s71_41, s71_44, s71_45, s71_48, s71_51, s71_52]
      rw [← q3, ← r3]
      refine m_tell (p := ix x) (lo := ix y) (by omega) (by omega) (by omega) g43 g44 (fun f hf => ?_)
      have hS := hC.stt ha
      obtain ⟨s1, s2, _, s5, s6⟩ := id hS
      have hS2 : STT 42 a (ix x) (ix y) S (ex_set (ex_set h 43 (oNum (nI (ix x)) (nI (ix y)) 44)) 44 (cI 6 f)) := by
        refine ⟨?_, ?_, ⟨f, g_set, hf⟩, ?_, fun i hi => ?_⟩
        · rw [g_ne (by decide), g_ne (by decide)]; exact s1
        · rw [g_ne (by decide)]; exact g_set
        · rw [g_ne (by decide), g_ne (by decide)]; exact s5
        · obtain ⟨f', b1, b2⟩ := s6 i hi
          exact ⟨f', by rw [g_ne (by omega), g_ne (by omega)]; exact b1, b2⟩
      simp only [s71_0, s71_1, s71_4, s71_7, s71_8, s71_9, s71_10, s71_11, s71_12, s71_15, s71_18, s71_20, s71_21, s71_22, s71_25, s71_28, s71_31, s71_32, s71_33, s71_36, s71_39, s71_40, s71_41, s71_44, s71_45, s71_48, s71_51, s71_52, is_O, opt_s, opt_n, cat_0, cat_i, cat_r, true_and, Nat.zero_le, Nat.reduceAdd, Nat.reduceLeDiff, al_I, as_I, rl_R, ln_I, ln_R, nI_add, pk_mul, g_set, set_set, not_false_eq_true, gf0_0, gf0_1, gf0_2, gf1_0, gf1_1, gf1_2, gf1_3, gf1_4, gf1_5, gf1_6, gf1_7, gf1_8, gf1_9, gf1_10, gf1_11, gf2_0, gf2_1, gf2_2, gf3_0, gf3_1, gf4_0, gf4_1, gf4_2, gf5_0, gf5_1, gf5_2, gf5_3, gf6_0, gf6_1, gf6_2, gf6_3, gf6_4, gf6_5, gf6_6, gf7_0, gf7_1, gf7_2, gf7_3, gf7_4, gf7_5, pf0_0, pf0_1, pf0_2, pf1_0, pf1_1, pf1_2, pf1_3, pf1_4, pf1_5, pf1_6, pf1_7, pf1_8, pf1_9, pf1_10, pf1_11, pf2_0, pf2_1, pf2_2, pf3_0, pf3_1, pf4_0, pf4_1, pf4_2, pf5_0, pf5_1, pf5_2, pf5_3, pf6_0, pf6_1, pf6_2, pf6_3, pf6_4, pf6_5, pf6_6, pf7_0, pf7_1, pf7_2, pf7_3, pf7_4, pf7_5, g_ne (show ¬ 1 = 44 by decide), g_ne (show ¬ 1 = 43 by decide), g1, g_ne (show ¬ 42 = 44 by decide), g_ne (show ¬ 42 = 43 by decide), g42]
      refine m_clearSums hS2 (fun K kc kS => ?_)
      obtain ⟨e1, e2⟩ := hC.st (H := K) (w := v) (p' := ix x) (lo' := ix y) (S' := fun _ _ => 0) ha ⟨⟨h1, h2⟩, ⟨q1, q2, hx.2⟩, by show ix y < ix x; omega, fun s hs d => ⟨by show 0 < ix x; omega, fun _ => rfl⟩⟩ kS ⟨kc.1, kc.2.1, fun q hq => by rw [kc.2.2 q (by omega), g_ne (by omega), g_ne (by omega)]⟩
      simp only [s71_0, s71_1, s71_4, s71_7, s71_8, s71_9, s71_10, s71_11, s71_12, s71_15, s71_18, s71_20, s71_21, s71_22, s71_25, s71_28, s71_31, s71_32, s71_33, s71_36, s71_39, s71_40, s71_41, s71_44, s71_45, s71_48, s71_51, s71_52, is_O, opt_s, opt_n, cat_0, cat_i, cat_r, true_and, Nat.zero_le, Nat.reduceAdd, Nat.reduceLeDiff, al_I, as_I, rl_R, ln_I, ln_R, nI_add, pk_mul, g_set, set_set, not_false_eq_true, gf0_0, gf0_1, gf0_2, gf1_0, gf1_1, gf1_2, gf1_3, gf1_4, gf1_5, gf1_6, gf1_7, gf1_8, gf1_9, gf1_10, gf1_11, gf2_0, gf2_1, gf2_2, gf3_0, gf3_1, gf4_0, gf4_1, gf4_2, gf5_0, gf5_1, gf5_2, gf5_3, gf6_0, gf6_1, gf6_2, gf6_3, gf6_4, gf6_5, gf6_6, gf7_0, gf7_1, gf7_2, gf7_3, gf7_4, gf7_5, pf0_0, pf0_1, pf0_2, pf1_0, pf1_1, pf1_2, pf1_3, pf1_4, pf1_5, pf1_6, pf1_7, pf1_8, pf1_9, pf1_10, pf1_11, pf2_0, pf2_1, pf2_2, pf3_0, pf3_1, pf4_0, pf4_1, pf4_2, pf5_0, pf5_1, pf5_2, pf5_3, pf6_0, pf6_1, pf6_2, pf6_3, pf6_4, pf6_5, pf6_6, pf7_0, pf7_1, pf7_2, pf7_3, pf7_4, pf7_5]
      exact hX K e2 e1
    · have hX := hX2 (fun q => hy q.2)
      simp only [if_neg hy, i10, i10n, not_true_eq_false, if_false, if_true]
      exact hX
  · have hX := hX2 (fun q => hx q.1)
    simp only [s71_0, s71_1, s71_4, s71_7, s71_8, s71_9, s71_10, s71_11, s71_12, s71_15, s71_18, s71_20, s71_21, s71_22, s71_25, s71_28, s71_31, s71_32, s71_33, s71_36, s71_39, s71_40, s71_41, s71_44, s71_45, s71_48, s71_51, s71_52, is_O, opt_s, opt_n, cat_0, cat_i, cat_r, true_and, Nat.zero_le, Nat.reduceAdd, Nat.reduceLeDiff, al_I, as_I, rl_R, ln_I, ln_R, nI_add, pk_mul, g_set, set_set, not_false_eq_true, gf0_0, gf0_1, gf0_2, gf1_0, gf1_1, gf1_2, gf1_3, gf1_4, gf1_5, gf1_6, gf1_7, gf1_8, gf1_9, gf1_10, gf1_11, gf2_0, gf2_1, gf2_2, gf3_0, gf3_1, gf4_0, gf4_1, gf4_2, gf5_0, gf5_1, gf5_2, gf5_3, gf6_0, gf6_1, gf6_2, gf6_3, gf6_4, gf6_5, gf6_6, gf7_0, gf7_1, gf7_2, gf7_3, gf7_4, gf7_5, pf0_0, pf0_1, pf0_2, pf1_0, pf1_1, pf1_2, pf1_3, pf1_4, pf1_5, pf1_6, pf1_7, pf1_8, pf1_9, pf1_10, pf1_11, pf2_0, pf2_1, pf2_2, pf3_0, pf3_1, pf4_0, pf4_1, pf4_2, pf5_0, pf5_1, pf5_2, pf5_3, pf6_0, pf6_1, pf6_2, pf6_3, pf6_4, pf6_5, pf6_6, pf7_0, pf7_1, pf7_2, pf7_3, pf7_4, pf7_5, if_neg hx, i10, i10n, not_true_eq_false, if_false, if_true]
    exact hX
theorem x_restore {x : Int32} (hC : CX ρ ι N F v p lo S I h) (hX1 : isW 0 1 x → ∀ z, I (ix x) = some z → ∀ H, chC h H → CX ρ ι N F z.1 z.2.1 z.2.2.1 z.2.2.2 I H → X (some (.int (nI 1))) H) (hX2 : isW 0 1 x → I (ix x) = none → X (some (.int (-3))) h) (hX3 : ¬ isW 0 1 x → X (some (.int (-2))) h) : ex_W 83 0 [.ref 1, .int x] [] h X := by
  obtain ⟨a, fc, w', fp, ha, hD, hpl, g1, g42, g43, g44, hfp, g45, ga, ga1, ga4, hfc, ga5, gp, gq⟩ := hC.get
  have h1 := hC.2.1.1.1
  have h2 := hC.2.1.1.2
  obtain ⟨_, ⟨hp, hp2, hpr⟩, hlo, hok⟩ := hC.2.1
  try dsimp only at h1 h2 hp hp2 hpr hlo hok
  have hTc := tC_le h1 h2
  have g51 := hC.2.2.2.2.2.2.1
  by_cases hx : isW 0 1 x
  · obtain ⟨_, q2, q3⟩ := isW_e (by decide) (by decide) hx
    have hk : ix x < 2 := by omega
    simp only [s83_0, s83_1, s83_2, s83_3, s83_6, s83_9, s83_11, s83_12, s83_13, s83_16, s83_17, s83_18, s83_18n, s83_21, s83_23, s83_24, s83_25, s83_28, s83_29, s83_32, s83_33, s83_34, s83_37, s83_38, is_O, opt_s, opt_n, cat_0, cat_i, cat_r, true_and, Nat.zero_le, Nat.reduceAdd, Nat.reduceLeDiff, al_I, as_I, rl_R, ln_I, ln_R, nI_add, pk_mul, g_set, set_set, not_false_eq_true, gf0_0, gf0_1, gf0_2, gf1_0, gf1_1, gf1_2, gf1_3, gf1_4, gf1_5, gf1_6, gf1_7, gf1_8, gf1_9, gf1_10, gf1_11, gf2_0, gf2_1, gf2_2, gf3_0, gf3_1, gf4_0, gf4_1, gf4_2, gf5_0, gf5_1, gf5_2, gf5_3, gf6_0, gf6_1, gf6_2, gf6_3, gf6_4, gf6_5, gf6_6, gf7_0, gf7_1, gf7_2, gf7_3, gf7_4, gf7_5, pf0_0, pf0_1, pf0_2, pf1_0, pf1_1, pf1_2, pf1_3, pf1_4, pf1_5, pf1_6, pf1_7, pf1_8, pf1_9, pf1_10, pf1_11, pf2_0, pf2_1, pf2_2, pf3_0, pf3_1, pf4_0, pf4_1, pf4_2, pf5_0, pf5_1, pf5_2, pf5_3, pf6_0, pf6_1, pf6_2, pf6_3, pf6_4, pf6_5, pf6_6, pf7_0, pf7_1, pf7_2, pf7_3, pf7_4, pf7_5, m_inW, if_pos hx, i10, i10n, not_true_eq_false, if_false, if_true, g1, g42, g51]
    rw [← q3]
    simp only [xi_n hk (show 2 < 2147483648 by decide)]
    rcases hC.2.2.2.2.2.2.2.2.1 _ hk with ⟨i1, i2⟩ | ⟨z, s, i1, i2, i3⟩
    · have hX := hX2 hx i1
      rw [i2]
      simp only [va_rf, s83_0, s83_1, s83_2, s83_3, s83_6, s83_9, s83_11, s83_12, s83_13, s83_16, s83_17, s83_18, s83_18n, s83_21, s83_23, s83_24, s83_25, s83_28, s83_29, s83_32, s83_33, s83_34, s83_37, s83_38, is_O, opt_s, opt_n, cat_0, cat_i, cat_r, true_and, Nat.zero_le, Nat.reduceAdd, Nat.reduceLeDiff, al_I, as_I, rl_R, ln_I, ln_R, nI_add, pk_mul, g_set, set_set, not_false_eq_true, gf0_0, gf0_1, gf0_2, gf1_0, gf1_1, gf1_2, gf1_3, gf1_4, gf1_5, gf1_6, gf1_7, gf1_8, gf1_9, gf1_10, gf1_11, gf2_0, gf2_1, gf2_2, gf3_0, gf3_1, gf4_0, gf4_1, gf4_2, gf5_0, gf5_1, gf5_2, gf5_3, gf6_0, gf6_1, gf6_2, gf6_3, gf6_4, gf6_5, gf6_6, gf7_0, gf7_1, gf7_2, gf7_3, gf7_4, gf7_5, pf0_0, pf0_1, pf0_2, pf1_0, pf1_1, pf1_2, pf1_3, pf1_4, pf1_5, pf1_6, pf1_7, pf1_8, pf1_9, pf1_10, pf1_11, pf2_0, pf2_1, pf2_2, pf3_0, pf3_1, pf4_0, pf4_1, pf4_2, pf5_0, pf5_1, pf5_2, pf5_3, pf6_0, pf6_1, pf6_2, pf6_3, pf6_4, pf6_5, pf6_6, pf7_0, pf7_1, pf7_2, pf7_3, pf7_4, pf7_5]
      exact hX
    · have hX := hX1 hx z i1
      obtain ⟨j1, j2, j3, ⟨b, j4, j5⟩, j6⟩ := i3
      rw [vr_s i2]
      simp only [s83_0, s83_1, s83_2, s83_3, s83_6, s83_9, s83_11, s83_12, s83_13, s83_16, s83_17, s83_18, s83_18n, s83_21, s83_23, s83_24, s83_25, s83_28, s83_29, s83_32, s83_33, s83_34, s83_37, s83_38, is_O, opt_s, opt_n, cat_0, cat_i, cat_r, true_and, Nat.zero_le, Nat.reduceAdd, Nat.reduceLeDiff, al_I, as_I, rl_R, ln_I, ln_R, nI_add, pk_mul, g_set, set_set, not_false_eq_true, gf0_0, gf0_1, gf0_2, gf1_0, gf1_1, gf1_2, gf1_3, gf1_4, gf1_5, gf1_6, gf1_7, gf1_8, gf1_9, gf1_10, gf1_11, gf2_0, gf2_1, gf2_2, gf3_0, gf3_1, gf4_0, gf4_1, gf4_2, gf5_0, gf5_1, gf5_2, gf5_3, gf6_0, gf6_1, gf6_2, gf6_3, gf6_4, gf6_5, gf6_6, gf7_0, gf7_1, gf7_2, gf7_3, gf7_4, gf7_5, pf0_0, pf0_1, pf0_2, pf1_0, pf1_1, pf1_2, pf1_3, pf1_4, pf1_5, pf1_6, pf1_7, pf1_8, pf1_9, pf1_10, pf1_11, pf2_0, pf2_1, pf2_2, pf3_0, pf3_1, pf4_0, pf4_1, pf4_2, pf5_0, pf5_1, pf5_2, pf5_3, pf6_0, pf6_1, pf6_2, pf6_3, pf6_4, pf6_5, pf6_6, pf7_0, pf7_1, pf7_2, pf7_3, pf7_4, pf7_5, g1, g42, g51, xi_n hk (show 2 < 2147483648 by decide), vr_s i2]
      refine m_copyFrom j1.2.1.1 j1.2.1.2.1 j1.2.2.1 (by omega) (hC.stt ha) j5 (fun K kc kS => ?_)
      obtain ⟨e1, e2⟩ := hC.st (H := K) j4 j1 kS kc
      simp only [s83_0, s83_1, s83_2, s83_3, s83_6, s83_9, s83_11, s83_12, s83_13, s83_16, s83_17, s83_18, s83_18n, s83_21, s83_23, s83_24, s83_25, s83_28, s83_29, s83_32, s83_33, s83_34, s83_37, s83_38, is_O, opt_s, opt_n, cat_0, cat_i, cat_r, true_and, Nat.zero_le, Nat.reduceAdd, Nat.reduceLeDiff, al_I, as_I, rl_R, ln_I, ln_R, nI_add, pk_mul, g_set, set_set, not_false_eq_true, gf0_0, gf0_1, gf0_2, gf1_0, gf1_1, gf1_2, gf1_3, gf1_4, gf1_5, gf1_6, gf1_7, gf1_8, gf1_9, gf1_10, gf1_11, gf2_0, gf2_1, gf2_2, gf3_0, gf3_1, gf4_0, gf4_1, gf4_2, gf5_0, gf5_1, gf5_2, gf5_3, gf6_0, gf6_1, gf6_2, gf6_3, gf6_4, gf6_5, gf6_6, gf7_0, gf7_1, gf7_2, gf7_3, gf7_4, gf7_5, pf0_0, pf0_1, pf0_2, pf1_0, pf1_1, pf1_2, pf1_3, pf1_4, pf1_5, pf1_6, pf1_7, pf1_8, pf1_9, pf1_10, pf1_11, pf2_0, pf2_1, pf2_2, pf3_0, pf3_1, pf4_0, pf4_1, pf4_2, pf5_0, pf5_1, pf5_2, pf5_3, pf6_0, pf6_1, pf6_2, pf6_3, pf6_4, pf6_5, pf6_6, pf7_0, pf7_1, pf7_2, pf7_3, pf7_4, pf7_5]
      exact hX K e2 e1
  · have hX := hX3 hx
    simp only [s83_0, s83_1, s83_2, s83_3, s83_6, s83_9, s83_11, s83_12, s83_13, s83_16, s83_17, s83_18, s83_18n, s83_21, s83_23, s83_24, s83_25, s83_28, s83_29, s83_32, s83_33, s83_34, s83_37, s83_38, is_O, opt_s, opt_n, cat_0, cat_i, cat_r, true_and, Nat.zero_le, Nat.reduceAdd, Nat.reduceLeDiff, al_I, as_I, rl_R, ln_I, ln_R, nI_add, pk_mul, g_set, set_set, not_false_eq_true, gf0_0, gf0_1, gf0_2, gf1_0, gf1_1, gf1_2, gf1_3, gf1_4, gf1_5, gf1_6, gf1_7, gf1_8, gf1_9, gf1_10, gf1_11, gf2_0, gf2_1, gf2_2, gf3_0, gf3_1, gf4_0, gf4_1, gf4_2, gf5_0, gf5_1, gf5_2, gf5_3, gf6_0, gf6_1, gf6_2, gf6_3, gf6_4, gf6_5, gf6_6, gf7_0, gf7_1, gf7_2, gf7_3, gf7_4, gf7_5, pf0_0, pf0_1, pf0_2, pf1_0, pf1_1, pf1_2, pf1_3, pf1_4, pf1_5, pf1_6, pf1_7, pf1_8, pf1_9, pf1_10, pf1_11, pf2_0, pf2_1, pf2_2, pf3_0, pf3_1, pf4_0, pf4_1, pf4_2, pf5_0, pf5_1, pf5_2, pf5_3, pf6_0, pf6_1, pf6_2, pf6_3, pf6_4, pf6_5, pf6_6, pf7_0, pf7_1, pf7_2, pf7_3, pf7_4, pf7_5, m_inW, if_neg hx, i10, i10n, not_true_eq_false, if_false, if_true]
    exact hX
theorem x_count {x : Int32} {b0 b1 : Bool} (hC : CX ρ ι N F v p lo S I h) (hb0 : (I 0).isSome = b0) (hb1 : (I 1).isSome = b1) (hX : X (some (.int (aCt v p lo N ((if b0 = true then 1 else 0) + (if b1 = true then 2 else 0)) x))) h) : ex_W 84 0 [.ref 1, .int x] [] h X := by
  obtain ⟨a, fc, w', fp, ha, hD, hpl, g1, g42, g43, g44, hfp, g45, ga, ga1, ga4, hfc, ga5, gp, gq⟩ := hC.get
  have h1 := hC.2.1.1.1
  have h2 := hC.2.1.1.2
  obtain ⟨_, ⟨hp, hp2, hpr⟩, hlo, hok⟩ := hC.2.1
  try dsimp only at h1 h2 hp hp2 hpr hlo hok
  have hTc := tC_le h1 h2
  have g51 := hC.2.2.2.2.2.2.1
  unfold aCt at hX
  simp only [s84_0, s84_1, s84_40, s84_41, s84_44, s84_47, s84_50, s84_51, s84_52, s84_55, s84_58, s84_61, s84_64, s84_65, s84_66, s84_69, s84_72, s84_75, s84_76, s84_77, s84_80, s84_83, s84_86, s84_87, s84_88, s84_91, s84_94, s84_95, s84_96, s84_99, s84_100, s84_101, s84_101n, s84_104, s84_105, s84_108, s84_109, s84_110, s84_113, s84_114, s84_115, s84_115n, s84_118, s84_119, s84_122, s84_123, s84_124, s84_125, s84_127, is_O, opt_s, opt_n, cat_0, cat_i, cat_r, true_and, Nat.zero_le, Nat.reduceAdd, Nat.reduceLeDiff, al_I, as_I, rl_R, ln_I, ln_R, nI_add, pk_mul, g_set, set_set, not_false_eq_true, gf0_0, gf0_1, gf0_2, gf1_0, gf1_1, gf1_2, gf1_3, gf1_4, gf1_5, gf1_6, gf1_7, gf1_8, gf1_9, gf1_10, gf1_11, gf2_0, gf2_1, gf2_2, gf3_0, gf3_1, gf4_0, gf4_1, gf4_2, gf5_0, gf5_1, gf5_2, gf5_3, gf6_0, gf6_1, gf6_2, gf6_3, gf6_4, gf6_5, gf6_6, gf7_0, gf7_1, gf7_2, gf7_3, gf7_4, gf7_5, pf0_0, pf0_1, pf0_2, pf1_0, pf1_1, pf1_2, pf1_3, pf1_4, pf1_5, pf1_6, pf1_7, pf1_8, pf1_9, pf1_10, pf1_11, pf2_0, pf2_1, pf2_2, pf3_0, pf3_1, pf4_0, pf4_1, pf4_2, pf5_0, pf5_1, pf5_2, pf5_3, pf6_0, pf6_1, pf6_2, pf6_3, pf6_4, pf6_5, pf6_6, pf7_0, pf7_1, pf7_2, pf7_3, pf7_4, pf7_5, g1, g42, g43, ga, ga1, gp, g51, xi_n (show 0 < 2 by omega) (show 2 < 2147483648 by decide), xi_n (show 1 < 2 by omega) (show 2 < 2147483648 by decide)]
  by_cases x0 : x = nI 0
  · rw [if_pos x0] at hX ⊢; exact hX
  rw [if_neg x0] at hX ⊢
  by_cases x1 : x = nI 1
  · rw [if_pos x1] at hX ⊢; exact hX
  rw [if_neg x1] at hX ⊢
  by_cases x2 : x = nI 2
  · rw [if_pos x2] at hX ⊢; exact hX
  rw [if_neg x2] at hX ⊢
  by_cases x3 : x = nI 3
  · rw [if_pos x3] at hX ⊢; exact hX
  rw [if_neg x3] at hX ⊢
  by_cases x4 : x = nI 4
  · rw [if_pos x4] at hX ⊢; exact hX
  rw [if_neg x4] at hX ⊢
  by_cases x5 : x = nI 5
  · rw [if_pos x5] at hX ⊢
    rcases hC.2.2.2.2.2.2.2.2.1 0 (by decide) with ⟨i1, i2⟩ | ⟨z, s, i1, i2, i3⟩
    · rw [i1] at hb0
      subst hb0
      rcases hC.2.2.2.2.2.2.2.2.1 1 (by decide) with ⟨j1, j2⟩ | ⟨z', s', j1, j2, j3⟩
      · rw [j1] at hb1
        subst hb1
        simp only [i2, j2, va_rf, s84_0, s84_1, s84_40, s84_41, s84_44, s84_47, s84_50, s84_51, s84_52, s84_55, s84_58, s84_61, s84_64, s84_65, s84_66, s84_69, s84_72, s84_75, s84_76, s84_77, s84_80, s84_83, s84_86, s84_87, s84_88, s84_91, s84_94, s84_95, s84_96, s84_99, s84_100, s84_101, s84_101n, s84_104, s84_105, s84_108, s84_109, s84_110, s84_113, s84_114, s84_115, s84_115n, s84_118, s84_119, s84_122, s84_123, s84_124, s84_125, s84_127, is_O, opt_s, opt_n, cat_0, cat_i, cat_r, true_and, Nat.zero_le, Nat.reduceAdd, Nat.reduceLeDiff, al_I, as_I, rl_R, ln_I, ln_R, nI_add, pk_mul, g_set, set_set, not_false_eq_true, gf0_0, gf0_1, gf0_2, gf1_0, gf1_1, gf1_2, gf1_3, gf1_4, gf1_5, gf1_6, gf1_7, gf1_8, gf1_9, gf1_10, gf1_11, gf2_0, gf2_1, gf2_2, gf3_0, gf3_1, gf4_0, gf4_1, gf4_2, gf5_0, gf5_1, gf5_2, gf5_3, gf6_0, gf6_1, gf6_2, gf6_3, gf6_4, gf6_5, gf6_6, gf7_0, gf7_1, gf7_2, gf7_3, gf7_4, gf7_5, pf0_0, pf0_1, pf0_2, pf1_0, pf1_1, pf1_2, pf1_3, pf1_4, pf1_5, pf1_6, pf1_7, pf1_8, pf1_9, pf1_10, pf1_11, pf2_0, pf2_1, pf2_2, pf3_0, pf3_1, pf4_0, pf4_1, pf4_2, pf5_0, pf5_1, pf5_2, pf5_3, pf6_0, pf6_1, pf6_2, pf6_3, pf6_4, pf6_5, pf6_6, pf7_0, pf7_1, pf7_2, pf7_3, pf7_4, pf7_5, g1, g51, xi_n (show 0 < 2 by omega) (show 2 < 2147483648 by decide), xi_n (show 1 < 2 by omega) (show 2 < 2147483648 by decide)]
        exact hX
      · rw [j1] at hb1
        subst hb1
        simp only [i2, j2, va_rf, s84_0, s84_1, s84_40, s84_41, s84_44, s84_47, s84_50, s84_51, s84_52, s84_55, s84_58, s84_61, s84_64, s84_65, s84_66, s84_69, s84_72, s84_75, s84_76, s84_77, s84_80, s84_83, s84_86, s84_87, s84_88, s84_91, s84_94, s84_95, s84_96, s84_99, s84_100, s84_101, s84_101n, s84_104, s84_105, s84_108, s84_109, s84_110, s84_113, s84_114, s84_115, s84_115n, s84_118, s84_119, s84_122, s84_123, s84_124, s84_125, s84_127, is_O, opt_s, opt_n, cat_0, cat_i, cat_r, true_and, Nat.zero_le, Nat.reduceAdd, Nat.reduceLeDiff, al_I, as_I, rl_R, ln_I, ln_R, nI_add, pk_mul, g_set, set_set, not_false_eq_true, gf0_0, gf0_1, gf0_2, gf1_0, gf1_1, gf1_2, gf1_3, gf1_4, gf1_5, gf1_6, gf1_7, gf1_8, gf1_9, gf1_10, gf1_11, gf2_0, gf2_1, gf2_2, gf3_0, gf3_1, gf4_0, gf4_1, gf4_2, gf5_0, gf5_1, gf5_2, gf5_3, gf6_0, gf6_1, gf6_2, gf6_3, gf6_4, gf6_5, gf6_6, gf7_0, gf7_1, gf7_2, gf7_3, gf7_4, gf7_5, pf0_0, pf0_1, pf0_2, pf1_0, pf1_1, pf1_2, pf1_3, pf1_4, pf1_5, pf1_6, pf1_7, pf1_8, pf1_9, pf1_10, pf1_11, pf2_0, pf2_1, pf2_2, pf3_0, pf3_1, pf4_0, pf4_1, pf4_2, pf5_0, pf5_1, pf5_2, pf5_3, pf6_0, pf6_1, pf6_2, pf6_3, pf6_4, pf6_5, pf6_6, pf7_0, pf7_1, pf7_2, pf7_3, pf7_4, pf7_5, g1, g51, xi_n (show 0 < 2 by omega) (show 2 < 2147483648 by decide), xi_n (show 1 < 2 by omega) (show 2 < 2147483648 by decide)]
        exact hX
    · rw [i1] at hb0
      subst hb0
      rcases hC.2.2.2.2.2.2.2.2.1 1 (by decide) with ⟨j1, j2⟩ | ⟨z', s', j1, j2, j3⟩
      · rw [j1] at hb1
        subst hb1
        simp only [i2, j2, va_rf, s84_0, s84_1, s84_40, s84_41, s84_44, s84_47, s84_50, s84_51, s84_52, s84_55, s84_58, s84_61, s84_64, s84_65, s84_66, s84_69, s84_72, s84_75, s84_76, s84_77, s84_80, s84_83, s84_86, s84_87, s84_88, s84_91, s84_94, s84_95, s84_96, s84_99, s84_100, s84_101, s84_101n, s84_104, s84_105, s84_108, s84_109, s84_110, s84_113, s84_114, s84_115, s84_115n, s84_118, s84_119, s84_122, s84_123, s84_124, s84_125, s84_127, is_O, opt_s, opt_n, cat_0, cat_i, cat_r, true_and, Nat.zero_le, Nat.reduceAdd, Nat.reduceLeDiff, al_I, as_I, rl_R, ln_I, ln_R, nI_add, pk_mul, g_set, set_set, not_false_eq_true, gf0_0, gf0_1, gf0_2, gf1_0, gf1_1, gf1_2, gf1_3, gf1_4, gf1_5, gf1_6, gf1_7, gf1_8, gf1_9, gf1_10, gf1_11, gf2_0, gf2_1, gf2_2, gf3_0, gf3_1, gf4_0, gf4_1, gf4_2, gf5_0, gf5_1, gf5_2, gf5_3, gf6_0, gf6_1, gf6_2, gf6_3, gf6_4, gf6_5, gf6_6, gf7_0, gf7_1, gf7_2, gf7_3, gf7_4, gf7_5, pf0_0, pf0_1, pf0_2, pf1_0, pf1_1, pf1_2, pf1_3, pf1_4, pf1_5, pf1_6, pf1_7, pf1_8, pf1_9, pf1_10, pf1_11, pf2_0, pf2_1, pf2_2, pf3_0, pf3_1, pf4_0, pf4_1, pf4_2, pf5_0, pf5_1, pf5_2, pf5_3, pf6_0, pf6_1, pf6_2, pf6_3, pf6_4, pf6_5, pf6_6, pf7_0, pf7_1, pf7_2, pf7_3, pf7_4, pf7_5, g1, g51, xi_n (show 0 < 2 by omega) (show 2 < 2147483648 by decide), xi_n (show 1 < 2 by omega) (show 2 < 2147483648 by decide)]
        exact hX
      · rw [j1] at hb1
        subst hb1
        simp only [i2, j2, va_rf, s84_0, s84_1, s84_40, s84_41, s84_44, s84_47, s84_50, s84_51, s84_52, s84_55, s84_58, s84_61, s84_64, s84_65, s84_66, s84_69, s84_72, s84_75, s84_76, s84_77, s84_80, s84_83, s84_86, s84_87, s84_88, s84_91, s84_94, s84_95, s84_96, s84_99, s84_100, s84_101, s84_101n, s84_104, s84_105, s84_108, s84_109, s84_110, s84_113, s84_114, s84_115, s84_115n, s84_118, s84_119, s84_122, s84_123, s84_124, s84_125, s84_127, is_O, opt_s, opt_n, cat_0, cat_i, cat_r, true_and, Nat.zero_le, Nat.reduceAdd, Nat.reduceLeDiff, al_I, as_I, rl_R, ln_I, ln_R, nI_add, pk_mul, g_set, set_set, not_false_eq_true, gf0_0, gf0_1, gf0_2, gf1_0, gf1_1, gf1_2, gf1_3, gf1_4, gf1_5, gf1_6, gf1_7, gf1_8, gf1_9, gf1_10, gf1_11, gf2_0, gf2_1, gf2_2, gf3_0, gf3_1, gf4_0, gf4_1, gf4_2, gf5_0, gf5_1, gf5_2, gf5_3, gf6_0, gf6_1, gf6_2, gf6_3, gf6_4, gf6_5, gf6_6, gf7_0, gf7_1, gf7_2, gf7_3, gf7_4, gf7_5, pf0_0, pf0_1, pf0_2, pf1_0, pf1_1, pf1_2, pf1_3, pf1_4, pf1_5, pf1_6, pf1_7, pf1_8, pf1_9, pf1_10, pf1_11, pf2_0, pf2_1, pf2_2, pf3_0, pf3_1, pf4_0, pf4_1, pf4_2, pf5_0, pf5_1, pf5_2, pf5_3, pf6_0, pf6_1, pf6_2, pf6_3, pf6_4, pf6_5, pf6_6, pf7_0, pf7_1, pf7_2, pf7_3, pf7_4, pf7_5, g1, g51, xi_n (show 0 < 2 by omega) (show 2 < 2147483648 by decide), xi_n (show 1 < 2 by omega) (show 2 < 2147483648 by decide)]
        exact hX
  · rw [if_neg x5] at hX ⊢; exact hX
end C33
