/-! THE CLASS: projectors, and an Algebra -/
section C20
variable {h H : ex_Hp} {X : Option Value → ex_Hp → Prop} {v a s p lo r0 al n : Nat}
theorem m_mkProj (h1 : 1 ≤ v) (h2 : v ≤ 5) (hp : 2 ≤ p) (hp2 : p ≤ 101) (hlo : lo < p) (hsep : sep v a s al r0) (hn1 : 1 ≤ n) (hn : n ≤ v) (hal : ex_g h al = some (oAl al)) (hE : EN v a s p lo h) {f0 : Nat → Int32} (g0 : ex_g h r0 = some (cI 42 f0)) (i1 : isI (al + 1) h) (i2 : isI (al + 2) h) (i3 : isI (al + 3) h) (hX : ∀ H f, chX v a [al + 1, al + 2, al + 3, r0] h H → EN v a s p lo H → ex_g H r0 = some (cI 42 f) → (∀ d, d < 42 → f d = nI (pjZ v p lo (n - 1) d)) → isI (al + 1) H → isI (al + 2) H → isI (al + 3) H → X none H) : ex_W 7 0 [.ref al, .ref s, .ref r0, .int (nI n), oU, oU, oU] [] h X := by
  have hC := tC_le h1 h2
  obtain ⟨hd, okl, oks, ok0, n0⟩ := id hsep
  have gs := hE.1
  simp only [s7_0, s7_1, s7_4, s7_6, s7_7, s7_8, s7_11, s7_12, s7_13, s7_14, s7_15, s7_16, s7_20, s7_21, s7_24, s7_26, s7_27, s7_30, s7_33, s7_36, s7_37, s7_40, s7_41, s7_44, s7_45, s7_48, s7_49, s7_52, s7_55, s7_57, s7_58, s7_59, s7_60, s7_61, s7_62, s7_63, s7_66, s7_67, s7_68, s7_71, s7_74, s7_75, s7_76, s7_77, s7_80, s7_81, s7_84, s7_85, s7_88, s7_90, s7_92, s7_94, s7_95, s7_96, s7_99, s7_102, s7_104, s7_105, s7_106, s7_107, s7_110, s7_111, s7_114, s7_116, s7_118, s7_120, s7_123, s7_125, s7_128, s7_131, s7_132, s7_133, s7_134, s7_135, s7_136, s7_139, s7_142, s7_145, s7_148, is_O, opt_s, opt_n, cat_0, cat_i, cat_r, true_and, Nat.zero_le, Nat.reduceAdd, Nat.reduceLeDiff, al_I, as_I, rl_R, ln_I, ln_R, nI_add, pk_mul, g_set, set_set, not_false_eq_true, gf0_0, gf0_1, gf0_2, gf1_0, gf1_1, gf1_2, gf1_3, gf1_4, gf1_5, gf1_6, gf1_7, gf1_8, gf1_9, gf1_10, gf1_11, gf2_0, gf2_1, gf2_2, gf3_0, gf3_1, gf4_0, gf4_1, gf4_2, gf5_0, gf5_1, gf5_2, gf5_3, gf6_0, gf6_1, gf6_2, gf6_3, gf6_4, gf6_5, gf6_6, gf7_0, gf7_1, gf7_2, gf7_3, gf7_4, gf7_5, pf0_0, pf0_1, pf0_2, pf1_0, pf1_1, pf1_2, pf1_3, pf1_4, pf1_5, pf1_6, pf1_7, pf1_8, pf1_9, pf1_10, pf1_11, pf2_0, pf2_1, pf2_2, pf3_0, pf3_1, pf4_0, pf4_1, pf4_2, pf5_0, pf5_1, pf5_2, pf5_3, pf6_0, pf6_1, pf6_2, pf6_3, pf6_4, pf6_5, pf6_6, pf7_0, pf7_1, pf7_2, pf7_3, pf7_4, pf7_5, gs]
  refine m_fill (by decide) g0 (fun G g hG hg hgx => ?_)
  simp only [s7_0, s7_1, s7_4, s7_6, s7_7, s7_8, s7_11, s7_12, s7_13, s7_14, s7_15, s7_16, s7_20, s7_21, s7_24, s7_26, s7_27, s7_30, s7_33, s7_36, s7_37, s7_40, s7_41, s7_44, s7_45, s7_48, s7_49, s7_52, s7_55, s7_57, s7_58, s7_59, s7_60, s7_61, s7_62, s7_63, s7_66, s7_67, s7_68, s7_71, s7_74, s7_75, s7_76, s7_77, s7_80, s7_81, s7_84, s7_85, s7_88, s7_90, s7_92, s7_94, s7_95, s7_96, s7_99, s7_102, s7_104, s7_105, s7_106, s7_107, s7_110, s7_111, s7_114, s7_116, s7_118, s7_120, s7_123, s7_125, s7_128, s7_131, s7_132, s7_133, s7_134, s7_135, s7_136, s7_139, s7_142, s7_145, s7_148, is_O, opt_s, opt_n, cat_0, cat_i, cat_r, true_and, Nat.zero_le, Nat.reduceAdd, Nat.reduceLeDiff, al_I, as_I, rl_R, ln_I, ln_R, nI_add, pk_mul, g_set, set_set, not_false_eq_true, gf0_0, gf0_1, gf0_2, gf1_0, gf1_1, gf1_2, gf1_3, gf1_4, gf1_5, gf1_6, gf1_7, gf1_8, gf1_9, gf1_10, gf1_11, gf2_0, gf2_1, gf2_2, gf3_0, gf3_1, gf4_0, gf4_1, gf4_2, gf5_0, gf5_1, gf5_2, gf5_3, gf6_0, gf6_1, gf6_2, gf6_3, gf6_4, gf6_5, gf6_6, gf7_0, gf7_1, gf7_2, gf7_3, gf7_4, gf7_5, pf0_0, pf0_1, pf0_2, pf1_0, pf1_1, pf1_2, pf1_3, pf1_4, pf1_5, pf1_6, pf1_7, pf1_8, pf1_9, pf1_10, pf1_11, pf2_0, pf2_1, pf2_2, pf3_0, pf3_1, pf4_0, pf4_1, pf4_2, pf5_0, pf5_1, pf5_2, pf5_3, pf6_0, pf6_1, pf6_2, pf6_3, pf6_4, pf6_5, pf6_6, pf7_0, pf7_1, pf7_2, pf7_3, pf7_4, pf7_5, hg, xi_n (show 0 < 42 by omega) (show 42 < 2147483648 by decide)]
  have tr : ∀ r, ¬ r = r0 → isI r h → isI r (ex_set G r0 (cI 42 (upd g 0 (nI 1)))) := fun r hr ⟨z, z1⟩ => ⟨z, (g_ne hr).trans ((hG.2.2 r (by simp [hr])).trans z1)⟩
  refine l_mp18 (h := h) h1 h2 hp hp2 hlo hsep hn hal hX (n - 1) 1 _ (upd g 0 (nI 1)) _ (by omega) (by decide) ((chX.rfl'.c hG (by simp)).set (by simp)) ((hE.fr h1 h2 (fun q hq => hG.2.2 q (by simp; omega))).set h1 h2 ok0) g_set (fun d hd2 => ?_) (tr _ (by omega) i1) (tr _ (by omega) i2) (tr _ (by omega) i3)
  unfold pjZ
  by_cases hc : d = 0
  · subst hc
    rw [pk_us, if_pos (by omega)]
    rfl
  · rw [pk_un hc, hgx d hd2]
    by_cases hc2 : d < tC v
    · rw [if_pos hc2]
      exact (congrArg nI (show prj v p lo 0 d = 0 from if_neg hc)).symm
    · rw [if_neg hc2]
end C20
