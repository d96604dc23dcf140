/-! THE CLASS: sums piled -/
section C17
variable {h H : ex_Hp} {X : Option Value → ex_Hp → Prop} {v a s p lo r r0 r1 r2 al : Nat} {L R W T : Nat → Nat}
theorem pil_z {x : Nat} {W : Nat → Nat} {k : Nat} (hW : W k < p) (hx : x = 0) : updN W k ((W k + x) % p) = W := by
  subst hx
  funext j
  unfold updN
  by_cases hj : j = k
  · rw [if_pos hj, hj, Nat.add_zero, Nat.mod_eq_of_lt hW]
  · rw [if_neg hj]
theorem l_pi29 {x : Nat} (h1 : 1 ≤ v) (h2 : v ≤ 5) (hp : 2 ≤ p) (hp2 : p ≤ 101) (hd : s + 9 ≤ a ∨ a + eO v + 9 ≤ s) (okl : al + 4 ≤ a ∨ a + eO v + 9 ≤ al) (okr : okA v a s (al + 1)) (ok1 : r1 < a ∨ a + eO v + 9 ≤ r1) (ok2 : r2 < a ∨ a + eO v + 9 ≤ r2) (n1 : ¬ r1 = al + 1) (n2 : ¬ r2 = al + 1) (hx : x < tC v) (hL : ∀ d, L d < p) (hR : ∀ d, R d < p) (hal : ex_g h al = some (oAl al)) : ∀ (m t : Nat) (W : Nat → Nat) (H : ex_Hp) (f : Nat → Int32) (l7 l8 l9 l10 : Value), m + t = tC v → (∀ d, W d < p) → chX v a [al + 1] h H → EN v a s p lo H → rowF r1 0 L H → rowF r2 0 R H → ex_g H (al + 1) = some (cI 42 f) → (∀ d, d < 42 → f d = nI (W d)) → (∀ H f l7 l8 l9 l10, chX v a [al + 1] h H → EN v a s p lo H → rowF r1 0 L H → rowF r2 0 R H → ex_g H (al + 1) = some (cI 42 f) → (∀ d, d < 42 → f d = nI (pilB v p lo L R x m t W d)) → ex_W 5 149 [.ref al, .ref s, .ref r0, .ref r1, .ref r2, .int (nI x), .int (nI (tC v)), l7, l8, l9, l10] [] H X) → ex_W 5 29 [.ref al, .ref s, .ref r0, .ref r1, .ref r2, .int (nI x), .int (nI t), l7, l8, l9, l10] [] H X := by
  have hC := tC_le h1 h2
  intro m
  induction m with
  | zero =>
    intro t W H f l7 l8 l9 l10 hm hW hH hE k1 k2 gf hf hX
    obtain rfl : t = tC v := by omega
    obtain ⟨_, _, _, _, _, _, _, _, _, _, _, _, _, _, _, _, _, ga, gt⟩ := hE.size h1 h2
    have gs := hE.1
    rw [s5_29]
    simp only [s5_0, s5_1, s5_4, s5_5, s5_8, s5_9, s5_11, s5_13, s5_14, s5_17, s5_20, s5_23, s5_26, s5_27, s5_31, s5_32, s5_35, s5_38, s5_41, s5_44, s5_45, s5_47, s5_48, s5_51, s5_53, s5_55, s5_56, s5_59, s5_60, s5_63, s5_65, s5_67, s5_70, s5_72, s5_74, s5_76, s5_77, s5_79, s5_80, s5_83, s5_85, s5_87, s5_88, s5_91, s5_93, s5_94, s5_97, s5_98, s5_101, s5_102, s5_104, s5_105, s5_107, s5_109, s5_110, s5_113, s5_115, s5_118, s5_120, s5_121, s5_124, s5_126, s5_127, s5_130, s5_131, s5_134, s5_136, s5_137, s5_139, s5_142, s5_143, s5_146, s5_152, s5_155, s5_156, s5_159, s5_160, s5_161, s5_162, s5_164, s5_167, is_O, opt_s, opt_n, cat_0, cat_i, cat_r, true_and, Nat.zero_le, Nat.reduceAdd, Nat.reduceLeDiff, al_I, as_I, rl_R, ln_I, ln_R, nI_add, pk_mul, g_set, set_set, not_false_eq_true, gf0_0, gf0_1, gf0_2, gf1_0, gf1_1, gf1_2, gf1_3, gf1_4, gf1_5, gf1_6, gf1_7, gf1_8, gf1_9, gf1_10, gf1_11, gf2_0, gf2_1, gf2_2, gf3_0, gf3_1, gf4_0, gf4_1, gf4_2, gf5_0, gf5_1, gf5_2, gf5_3, gf6_0, gf6_1, gf6_2, gf6_3, gf6_4, gf6_5, gf6_6, gf7_0, gf7_1, gf7_2, gf7_3, gf7_4, gf7_5, pf0_0, pf0_1, pf0_2, pf1_0, pf1_1, pf1_2, pf1_3, pf1_4, pf1_5, pf1_6, pf1_7, pf1_8, pf1_9, pf1_10, pf1_11, pf2_0, pf2_1, pf2_2, pf3_0, pf3_1, pf4_0, pf4_1, pf4_2, pf5_0, pf5_1, pf5_2, pf5_3, pf6_0, pf6_1, pf6_2, pf6_3, pf6_4, pf6_5, pf6_6, pf7_0, pf7_1, pf7_2, pf7_3, pf7_4, pf7_5, gs, ga, gt]
    rw [if_pos ((nI_l1 (by omega) (by omega)).mpr (by omega))]
    exact hX H f _ _ _ _ hH hE k1 k2 gf hf
  | succ m ih =>
    intro t W H f l7 l8 l9 l10 hm hW hH hE k1 k2 gf hf hX
    have ht : t < tC v := by omega
    have hP := tP_lt h1 h2 hx ht
    obtain ⟨_, _, _, _, _, _, _, _, _, _, _, _, _, _, _, _, _, ga, gt⟩ := hE.size h1 h2
    have gs := hE.1
    obtain ⟨f1, a1, a2⟩ := id k1
    obtain ⟨f2, b1, b2⟩ := id k2
    have q1 := hL x
    have q2 := hR t
    rw [pilB] at hX
    rw [s5_29]
    simp only [s5_0, s5_1, s5_4, s5_5, s5_8, s5_9, s5_11, s5_13, s5_14, s5_17, s5_20, s5_23, s5_26, s5_27, s5_31, s5_32, s5_35, s5_38, s5_41, s5_44, s5_45, s5_47, s5_48, s5_51, s5_53, s5_55, s5_56, s5_59, s5_60, s5_63, s5_65, s5_67, s5_70, s5_72, s5_74, s5_76, s5_77, s5_79, s5_80, s5_83, s5_85, s5_87, s5_88, s5_91, s5_93, s5_94, s5_97, s5_98, s5_101, s5_102, s5_104, s5_105, s5_107, s5_109, s5_110, s5_113, s5_115, s5_118, s5_120, s5_121, s5_124, s5_126, s5_127, s5_130, s5_131, s5_134, s5_136, s5_137, s5_139, s5_142, s5_146, s5_152, s5_155, s5_156, s5_159, s5_160, s5_161, s5_162, s5_164, s5_167, is_O, opt_s, opt_n, cat_0, cat_i, cat_r, true_and, Nat.zero_le, Nat.reduceAdd, Nat.reduceLeDiff, al_I, as_I, rl_R, ln_I, ln_R, nI_add, pk_mul, g_set, set_set, not_false_eq_true, gf0_0, gf0_1, gf0_2, gf1_0, gf1_1, gf1_2, gf1_3, gf1_4, gf1_5, gf1_6, gf1_7, gf1_8, gf1_9, gf1_10, gf1_11, gf2_0, gf2_1, gf2_2, gf3_0, gf3_1, gf4_0, gf4_1, gf4_2, gf5_0, gf5_1, gf5_2, gf5_3, gf6_0, gf6_1, gf6_2, gf6_3, gf6_4, gf6_5, gf6_6, gf7_0, gf7_1, gf7_2, gf7_3, gf7_4, gf7_5, pf0_0, pf0_1, pf0_2, pf1_0, pf1_1, pf1_2, pf1_3, pf1_4, pf1_5, pf1_6, pf1_7, pf1_8, pf1_9, pf1_10, pf1_11, pf2_0, pf2_1, pf2_2, pf3_0, pf3_1, pf4_0, pf4_1, pf4_2, pf5_0, pf5_1, pf5_2, pf5_3, pf6_0, pf6_1, pf6_2, pf6_3, pf6_4, pf6_5, pf6_6, pf7_0, pf7_1, pf7_2, pf7_3, pf7_4, pf7_5, gs, ga, gt, a1, b1, xi_n (show x < 42 by omega) (show 42 < 2147483648 by decide), xi_n (show t < 42 by omega) (show 42 < 2147483648 by decide), a2 x (by omega) (by omega), b2 t (by omega) (by omega)]
    rw [if_neg (fun z => absurd ((nI_l1 (by omega) (by omega)).mp z) (by omega))]
    by_cases c1 : L x = 0
    · rw [if_pos (by rw [c1])]
      rw [pil_z (hW _) (by rw [c1, Nat.zero_mul, Nat.zero_mod, Nat.zero_mul, Nat.zero_mod])] at hX
      simp only [s5_143, s5_146, nI_add]
      exact ih (t + 1) W H f _ _ _ _ (by omega) hW hH hE k1 k2 gf hf hX
    · rw [if_neg (fun z => absurd ((nI_e (by omega) (by omega)).mp z) (by omega))]
      by_cases c2 : R t = 0
      · rw [if_pos (by rw [c2])]
        rw [pil_z (hW _) (by rw [c2, Nat.mul_zero, Nat.zero_mod, Nat.zero_mul, Nat.zero_mod])] at hX
        simp only [s5_143, s5_146, nI_add]
        exact ih (t + 1) W H f _ _ _ _ (by omega) hW hH hE k1 k2 gf hf hX
      · rw [if_neg (fun z => absurd ((nI_e (by omega) (by omega)).mp z) (by omega))]
        refine m_packed h1 h2 hx ht hE.2.2.2.2.1 (fun G hG hKG => ?_)
        have hEG := hE.ch h1 h2 hd hG hKG
        have k1G := k1.D hG ok1
        have k2G := k2.D hG ok2
        have hHG := hH.D hG
        have gfG : ex_g G (al + 1) = some (cI 42 f) := (hG.2.2 _ (by omega)).trans gf
        have glG : ex_g G al = some (oAl al) := (hHG.2.2 al (by simp) (by omega)).trans hal
        have gsG := hEG.1
        have gnG := hEG.2.1
        obtain ⟨fp, gp, hfp⟩ := hEG.2.2.1
        obtain ⟨g1, u1, u2⟩ := id k1G
        obtain ⟨g2, w1, w2⟩ := id k2G
        have e1 : nI (8 * tP v x t + tQ v x t) / nI 8 = nI (tP v x t) := by rw [pk_div (by have e : (2:Nat)^31 = 2147483648 := rfl; omega) (by decide) (by decide), show (8 * tP v x t + tQ v x t) / 8 = tP v x t by omega]
        have e2 : nI (8 * tP v x t + tQ v x t) - nI (tP v x t * 8) = nI (tQ v x t) := by rw [pk_sub (by omega), show 8 * tP v x t + tQ v x t - tP v x t * 8 = tQ v x t by omega]
        have b1' : L x * R t < 2147483648 := by
          have : L x * R t ≤ 101 * 101 := Nat.mul_le_mul (by omega) (by omega)
          omega
        have b2' : L x * R t % p < p := Nat.mod_lt _ (by omega)
        have b3 : lo ^ tQ v x t % p < p := Nat.mod_lt _ (by omega)
        have b4 : L x * R t % p * (lo ^ tQ v x t % p) < 2147483648 := by
          have : L x * R t % p * (lo ^ tQ v x t % p) ≤ 101 * 101 := Nat.mul_le_mul (by omega) (by omega)
          omega
        have b5 : L x * R t % p * (lo ^ tQ v x t % p) % p < p := Nat.mod_lt _ (by omega)
        have b6 : W (tP v x t) + L x * R t % p * (lo ^ tQ v x t % p) % p < 2147483648 := by have := hW (tP v x t); omega
        simp only [s5_0, s5_1, s5_4, s5_5, s5_8, s5_9, s5_11, s5_13, s5_14, s5_17, s5_20, s5_23, s5_26, s5_27, s5_31, s5_32, s5_35, s5_38, s5_41, s5_44, s5_45, s5_47, s5_48, s5_51, s5_53, s5_55, s5_56, s5_59, s5_60, s5_63, s5_65, s5_67, s5_70, s5_72, s5_74, s5_76, s5_77, s5_79, s5_80, s5_83, s5_85, s5_87, s5_88, s5_91, s5_93, s5_94, s5_97, s5_98, s5_101, s5_102, s5_104, s5_105, s5_107, s5_109, s5_110, s5_113, s5_115, s5_118, s5_120, s5_121, s5_124, s5_126, s5_127, s5_130, s5_131, s5_134, s5_136, s5_137, s5_139, s5_142, s5_146, s5_152, s5_155, s5_156, s5_159, s5_160, s5_161, s5_162, s5_164, s5_167, is_O, opt_s, opt_n, cat_0, cat_i, cat_r, true_and, Nat.zero_le, Nat.reduceAdd, Nat.reduceLeDiff, al_I, as_I, rl_R, ln_I, ln_R, nI_add, pk_mul, g_set, set_set, not_false_eq_true, gf0_0, gf0_1, gf0_2, gf1_0, gf1_1, gf1_2, gf1_3, gf1_4, gf1_5, gf1_6, gf1_7, gf1_8, gf1_9, gf1_10, gf1_11, gf2_0, gf2_1, gf2_2, gf3_0, gf3_1, gf4_0, gf4_1, gf4_2, gf5_0, gf5_1, gf5_2, gf5_3, gf6_0, gf6_1, gf6_2, gf6_3, gf6_4, gf6_5, gf6_6, gf7_0, gf7_1, gf7_2, gf7_3, gf7_4, gf7_5, pf0_0, pf0_1, pf0_2, pf1_0, pf1_1, pf1_2, pf1_3, pf1_4, pf1_5, pf1_6, pf1_7, pf1_8, pf1_9, pf1_10, pf1_11, pf2_0, pf2_1, pf2_2, pf3_0, pf3_1, pf4_0, pf4_1, pf4_2, pf5_0, pf5_1, pf5_2, pf5_3, pf6_0, pf6_1, pf6_2, pf6_3, pf6_4, pf6_5, pf6_6, pf7_0, pf7_1, pf7_2, pf7_3, pf7_4, pf7_5, z8, e1, e2, gsG, gnG, m_loopPower hP.2 gnG gp hfp, u1, w1, xi_n (show x < 42 by omega) (show 42 < 2147483648 by decide), xi_n (show t < 42 by omega) (show 42 < 2147483648 by decide), u2 x (by omega) (by omega), w2 t (by omega) (by omega), m_mul gnG, nF_n hp (show p < 32768 by omega) b1', nF_n hp (show p < 32768 by omega) b4, glG, gfG, xi_n (show tP v x t < 42 by omega) (show 42 < 2147483648 by decide), hf (tP v x t) (by omega), m_add gnG, nF_n hp (show p < 32768 by omega) b6, s5_143, s5_146]
        refine ih (t + 1) _ _ (upd f (tP v x t) (nI ((W (tP v x t) + L x * R t % p * (lo ^ tQ v x t % p) % p) % p))) _ _ _ _ (by omega) (fun d => ?_) (hHG.set (by simp)) (hEG.set h1 h2 okr) (k1G.ne n1) (k2G.ne n2) g_set (fun d hd2 => ?_) hX
        · unfold updN
          split
          · exact Nat.mod_lt _ (by omega)
          · exact hW d
        · unfold updN
          by_cases hc : d = tP v x t
          · rw [if_pos hc, hc, pk_us]
          · rw [if_neg hc, pk_un hc]
            exact hf d hd2
theorem l_pi11 (h1 : 1 ≤ v) (h2 : v ≤ 5) (hp : 2 ≤ p) (hp2 : p ≤ 101) (hd : s + 9 ≤ a ∨ a + eO v + 9 ≤ s) (okl : al + 4 ≤ a ∨ a + eO v + 9 ≤ al) (okr : okA v a s (al + 1)) (ok1 : r1 < a ∨ a + eO v + 9 ≤ r1) (ok2 : r2 < a ∨ a + eO v + 9 ≤ r2) (n1 : ¬ r1 = al + 1) (n2 : ¬ r2 = al + 1) (hL : ∀ d, L d < p) (hR : ∀ d, R d < p) (hal : ex_g h al = some (oAl al)) : ∀ (m t : Nat) (W : Nat → Nat) (H : ex_Hp) (f : Nat → Int32) (l6 l7 l8 l9 l10 : Value), m + t = tC v → (∀ d, W d < p) → chX v a [al + 1] h H → EN v a s p lo H → rowF r1 0 L H → rowF r2 0 R H → ex_g H (al + 1) = some (cI 42 f) → (∀ d, d < 42 → f d = nI (W d)) → (∀ H f l5 l6 l7 l8 l9 l10, chX v a [al + 1] h H → EN v a s p lo H → ex_g H (al + 1) = some (cI 42 f) → (∀ d, d < 42 → f d = nI (pilA v p lo L R m t W d)) → ex_W 5 155 [.ref al, .ref s, .ref r0, .ref r1, .ref r2, l5, l6, l7, l8, l9, l10] [] H X) → ex_W 5 11 [.ref al, .ref s, .ref r0, .ref r1, .ref r2, .int (nI t), l6, l7, l8, l9, l10] [] H X := by
  have hC := tC_le h1 h2
  intro m
  induction m with
  | zero =>
    intro t W H f l6 l7 l8 l9 l10 hm hW hH hE k1 k2 gf hf hX
    obtain rfl : t = tC v := by omega
    obtain ⟨_, _, _, _, _, _, _, _, _, _, _, _, _, _, _, _, _, ga, gt⟩ := hE.size h1 h2
    have gs := hE.1
    rw [s5_11]
    simp only [s5_0, s5_1, s5_4, s5_5, s5_8, s5_9, s5_13, s5_14, s5_17, s5_20, s5_23, s5_26, s5_27, s5_31, s5_32, s5_35, s5_38, s5_41, s5_44, s5_45, s5_47, s5_48, s5_51, s5_53, s5_55, s5_56, s5_59, s5_60, s5_63, s5_65, s5_67, s5_70, s5_72, s5_74, s5_76, s5_77, s5_79, s5_80, s5_83, s5_85, s5_87, s5_88, s5_91, s5_93, s5_94, s5_97, s5_98, s5_101, s5_102, s5_104, s5_105, s5_107, s5_109, s5_110, s5_113, s5_115, s5_118, s5_120, s5_121, s5_124, s5_126, s5_127, s5_130, s5_131, s5_134, s5_136, s5_137, s5_139, s5_142, s5_143, s5_146, s5_149, s5_152, s5_156, s5_159, s5_160, s5_161, s5_162, s5_164, s5_167, is_O, opt_s, opt_n, cat_0, cat_i, cat_r, true_and, Nat.zero_le, Nat.reduceAdd, Nat.reduceLeDiff, al_I, as_I, rl_R, ln_I, ln_R, nI_add, pk_mul, g_set, set_set, not_false_eq_true, gf0_0, gf0_1, gf0_2, gf1_0, gf1_1, gf1_2, gf1_3, gf1_4, gf1_5, gf1_6, gf1_7, gf1_8, gf1_9, gf1_10, gf1_11, gf2_0, gf2_1, gf2_2, gf3_0, gf3_1, gf4_0, gf4_1, gf4_2, gf5_0, gf5_1, gf5_2, gf5_3, gf6_0, gf6_1, gf6_2, gf6_3, gf6_4, gf6_5, gf6_6, gf7_0, gf7_1, gf7_2, gf7_3, gf7_4, gf7_5, pf0_0, pf0_1, pf0_2, pf1_0, pf1_1, pf1_2, pf1_3, pf1_4, pf1_5, pf1_6, pf1_7, pf1_8, pf1_9, pf1_10, pf1_11, pf2_0, pf2_1, pf2_2, pf3_0, pf3_1, pf4_0, pf4_1, pf4_2, pf5_0, pf5_1, pf5_2, pf5_3, pf6_0, pf6_1, pf6_2, pf6_3, pf6_4, pf6_5, pf6_6, pf7_0, pf7_1, pf7_2, pf7_3, pf7_4, pf7_5, gs, ga, gt]
    rw [if_pos ((nI_l1 (by omega) (by omega)).mpr (by omega))]
    exact hX H f _ _ _ _ _ _ hH hE gf hf
  | succ m ih =>
    intro t W H f l6 l7 l8 l9 l10 hm hW hH hE k1 k2 gf hf hX
    obtain ⟨_, _, _, _, _, _, _, _, _, _, _, _, _, _, _, _, _, ga, gt⟩ := hE.size h1 h2
    have gs := hE.1
    rw [pilA] at hX
    rw [s5_11]
    simp only [s5_0, s5_1, s5_4, s5_5, s5_8, s5_9, s5_13, s5_14, s5_17, s5_20, s5_23, s5_26, s5_27, s5_31, s5_32, s5_35, s5_38, s5_41, s5_44, s5_45, s5_47, s5_48, s5_51, s5_53, s5_55, s5_56, s5_59, s5_60, s5_63, s5_65, s5_67, s5_70, s5_72, s5_74, s5_76, s5_77, s5_79, s5_80, s5_83, s5_85, s5_87, s5_88, s5_91, s5_93, s5_94, s5_97, s5_98, s5_101, s5_102, s5_104, s5_105, s5_107, s5_109, s5_110, s5_113, s5_115, s5_118, s5_120, s5_121, s5_124, s5_126, s5_127, s5_130, s5_131, s5_134, s5_136, s5_137, s5_139, s5_142, s5_143, s5_146, s5_149, s5_152, s5_156, s5_159, s5_160, s5_161, s5_162, s5_164, s5_167, is_O, opt_s, opt_n, cat_0, cat_i, cat_r, true_and, Nat.zero_le, Nat.reduceAdd, Nat.reduceLeDiff, al_I, as_I, rl_R, ln_I, ln_R, nI_add, pk_mul, g_set, set_set, not_false_eq_true, gf0_0, gf0_1, gf0_2, gf1_0, gf1_1, gf1_2, gf1_3, gf1_4, gf1_5, gf1_6, gf1_7, gf1_8, gf1_9, gf1_10, gf1_11, gf2_0, gf2_1, gf2_2, gf3_0, gf3_1, gf4_0, gf4_1, gf4_2, gf5_0, gf5_1, gf5_2, gf5_3, gf6_0, gf6_1, gf6_2, gf6_3, gf6_4, gf6_5, gf6_6, gf7_0, gf7_1, gf7_2, gf7_3, gf7_4, gf7_5, pf0_0, pf0_1, pf0_2, pf1_0, pf1_1, pf1_2, pf1_3, pf1_4, pf1_5, pf1_6, pf1_7, pf1_8, pf1_9, pf1_10, pf1_11, pf2_0, pf2_1, pf2_2, pf3_0, pf3_1, pf4_0, pf4_1, pf4_2, pf5_0, pf5_1, pf5_2, pf5_3, pf6_0, pf6_1, pf6_2, pf6_3, pf6_4, pf6_5, pf6_6, pf7_0, pf7_1, pf7_2, pf7_3, pf7_4, pf7_5, gs, ga, gt]
    rw [if_neg (fun z => absurd ((nI_l1 (by omega) (by omega)).mp z) (by omega))]
    refine l_pi29 (h := h) h1 h2 hp hp2 hd okl okr ok1 ok2 n1 n2 (show t < tC v by omega) hL hR hal (tC v) 0 W H f _ _ _ _ (by omega) hW hH hE k1 k2 gf hf (fun G g l7 l8 l9 l10 hG hEG k1G k2G gG hgG => ?_)
    simp only [s5_149, s5_152, nI_add]
    exact ih (t + 1) _ G g _ _ _ _ _ (by omega) (pilB_lt (by omega) _ _ _ hW) hG hEG k1G k2G gG hgG hX
theorem m_pile {f0 fr : Nat → Int32} (h1 : 1 ≤ v) (h2 : v ≤ 5) (hp : 2 ≤ p) (hp2 : p ≤ 101) (hd : s + 9 ≤ a ∨ a + eO v + 9 ≤ s) (okl : al + 4 ≤ a ∨ a + eO v + 9 ≤ al) (okr : okA v a s (al + 1)) (ok1 : r1 < a ∨ a + eO v + 9 ≤ r1) (ok2 : r2 < a ∨ a + eO v + 9 ≤ r2) (ok0 : okA v a s r0) (n1 : ¬ r1 = al + 1) (n2 : ¬ r2 = al + 1) (n0 : ¬ r0 = al + 1) (hL : ∀ d, L d < p) (hR : ∀ d, R d < p) (hal : ex_g h al = some (oAl al)) (hE : EN v a s p lo h) (k1 : rowF r1 0 L h) (k2 : rowF r2 0 R h) (gr : ex_g h (al + 1) = some (cI 42 fr)) (g0 : ex_g h r0 = some (cI 42 f0)) (hX : ∀ H f, chX v a [al + 1, r0] h H → EN v a s p lo H → ex_g H r0 = some (cI 42 f) → (∀ d, d < 42 → f d = nI (pil v p lo L R d)) → (∃ g, ex_g H (al + 1) = some (cI 42 g)) → X none H) : ex_W 5 0 [.ref al, .ref s, .ref r0, .ref r1, .ref r2, oU, oU, oU, oU, oU, oU] [] h X := by
  simp only [s5_0, s5_1, s5_4, s5_5, s5_8, s5_9, s5_13, s5_14, s5_17, s5_20, s5_23, s5_26, s5_27, s5_29, s5_31, s5_32, s5_35, s5_38, s5_41, s5_44, s5_45, s5_47, s5_48, s5_51, s5_53, s5_55, s5_56, s5_59, s5_60, s5_63, s5_65, s5_67, s5_70, s5_72, s5_74, s5_76, s5_77, s5_79, s5_80, s5_83, s5_85, s5_87, s5_88, s5_91, s5_93, s5_94, s5_97, s5_98, s5_101, s5_102, s5_104, s5_105, s5_107, s5_109, s5_110, s5_113, s5_115, s5_118, s5_120, s5_121, s5_124, s5_126, s5_127, s5_130, s5_131, s5_134, s5_136, s5_137, s5_139, s5_142, s5_143, s5_146, s5_149, s5_152, s5_155, s5_156, s5_159, s5_160, s5_161, s5_162, s5_164, s5_167, is_O, opt_s, opt_n, cat_0, cat_i, cat_r, true_and, Nat.zero_le, Nat.reduceAdd, Nat.reduceLeDiff, al_I, as_I, rl_R, ln_I, ln_R, nI_add, pk_mul, g_set, set_set, not_false_eq_true, gf0_0, gf0_1, gf0_2, gf1_0, gf1_1, gf1_2, gf1_3, gf1_4, gf1_5, gf1_6, gf1_7, gf1_8, gf1_9, gf1_10, gf1_11, gf2_0, gf2_1, gf2_2, gf3_0, gf3_1, gf4_0, gf4_1, gf4_2, gf5_0, gf5_1, gf5_2, gf5_3, gf6_0, gf6_1, gf6_2, gf6_3, gf6_4, gf6_5, gf6_6, gf7_0, gf7_1, gf7_2, gf7_3, gf7_4, gf7_5, pf0_0, pf0_1, pf0_2, pf1_0, pf1_1, pf1_2, pf1_3, pf1_4, pf1_5, pf1_6, pf1_7, pf1_8, pf1_9, pf1_10, pf1_11, pf2_0, pf2_1, pf2_2, pf3_0, pf3_1, pf4_0, pf4_1, pf4_2, pf5_0, pf5_1, pf5_2, pf5_3, pf6_0, pf6_1, pf6_2, pf6_3, pf6_4, pf6_5, pf6_6, pf7_0, pf7_1, pf7_2, pf7_3, pf7_4, pf7_5, hal]
  refine m_fill (by decide) gr (fun G g hG hg hgx => ?_)
  simp only [s5_0, s5_1, s5_4, s5_5, s5_8, s5_9, s5_13, s5_14, s5_17, s5_20, s5_23, s5_26, s5_27, s5_29, s5_31, s5_32, s5_35, s5_38, s5_41, s5_44, s5_45, s5_47, s5_48, s5_51, s5_53, s5_55, s5_56, s5_59, s5_60, s5_63, s5_65, s5_67, s5_70, s5_72, s5_74, s5_76, s5_77, s5_79, s5_80, s5_83, s5_85, s5_87, s5_88, s5_91, s5_93, s5_94, s5_97, s5_98, s5_101, s5_102, s5_104, s5_105, s5_107, s5_109, s5_110, s5_113, s5_115, s5_118, s5_120, s5_121, s5_124, s5_126, s5_127, s5_130, s5_131, s5_134, s5_136, s5_137, s5_139, s5_142, s5_143, s5_146, s5_149, s5_152, s5_155, s5_156, s5_159, s5_160, s5_161, s5_162, s5_164, s5_167, is_O, opt_s, opt_n, cat_0, cat_i, cat_r, true_and, Nat.zero_le, Nat.reduceAdd, Nat.reduceLeDiff, al_I, as_I, rl_R, ln_I, ln_R, nI_add, pk_mul, g_set, set_set, not_false_eq_true, gf0_0, gf0_1, gf0_2, gf1_0, gf1_1, gf1_2, gf1_3, gf1_4, gf1_5, gf1_6, gf1_7, gf1_8, gf1_9, gf1_10, gf1_11, gf2_0, gf2_1, gf2_2, gf3_0, gf3_1, gf4_0, gf4_1, gf4_2, gf5_0, gf5_1, gf5_2, gf5_3, gf6_0, gf6_1, gf6_2, gf6_3, gf6_4, gf6_5, gf6_6, gf7_0, gf7_1, gf7_2, gf7_3, gf7_4, gf7_5, pf0_0, pf0_1, pf0_2, pf1_0, pf1_1, pf1_2, pf1_3, pf1_4, pf1_5, pf1_6, pf1_7, pf1_8, pf1_9, pf1_10, pf1_11, pf2_0, pf2_1, pf2_2, pf3_0, pf3_1, pf4_0, pf4_1, pf4_2, pf5_0, pf5_1, pf5_2, pf5_3, pf6_0, pf6_1, pf6_2, pf6_3, pf6_4, pf6_5, pf6_6, pf7_0, pf7_1, pf7_2, pf7_3, pf7_4, pf7_5]
  have hEG : EN v a s p lo G := hE.fr h1 h2 (fun q hq => hG.2.2 q (by simp; omega))
  have tr : ∀ r L, ¬ r = al + 1 → rowF r 0 L h → rowF r 0 L G := fun r L n ⟨f, f1, f2⟩ => ⟨f, (hG.2.2 r (by simp [n])).trans f1, f2⟩
  refine l_pi11 (h := h) h1 h2 hp hp2 hd okl okr ok1 ok2 n1 n2 hL hR hal (tC v) 0 (fun _ => 0) G g _ _ _ _ _ (by omega) (fun _ => by omega) (chX.rfl'.c hG (by simp)) hEG (tr r1 L n1 k1) (tr r2 R n2 k2) hg hgx (fun H f l5 l6 l7 l8 l9 l10 hH hEH gf hf => ?_)
  have gl : ex_g H al = some (oAl al) := (hH.2.2 al (by simp) (by omega)).trans hal
  have g0H : ex_g H r0 = some (cI 42 f0) := (hH.2.2 r0 (by simp [n0]) (by omega)).trans g0
  simp only [s5_0, s5_1, s5_4, s5_5, s5_8, s5_9, s5_13, s5_14, s5_17, s5_20, s5_23, s5_26, s5_27, s5_29, s5_31, s5_32, s5_35, s5_38, s5_41, s5_44, s5_45, s5_47, s5_48, s5_51, s5_53, s5_55, s5_56, s5_59, s5_60, s5_63, s5_65, s5_67, s5_70, s5_72, s5_74, s5_76, s5_77, s5_79, s5_80, s5_83, s5_85, s5_87, s5_88, s5_91, s5_93, s5_94, s5_97, s5_98, s5_101, s5_102, s5_104, s5_105, s5_107, s5_109, s5_110, s5_113, s5_115, s5_118, s5_120, s5_121, s5_124, s5_126, s5_127, s5_130, s5_131, s5_134, s5_136, s5_137, s5_139, s5_142, s5_143, s5_146, s5_149, s5_152, s5_155, s5_156, s5_159, s5_160, s5_161, s5_162, s5_164, s5_167, is_O, opt_s, opt_n, cat_0, cat_i, cat_r, true_and, Nat.zero_le, Nat.reduceAdd, Nat.reduceLeDiff, al_I, as_I, rl_R, ln_I, ln_R, nI_add, pk_mul, g_set, set_set, not_false_eq_true, gf0_0, gf0_1, gf0_2, gf1_0, gf1_1, gf1_2, gf1_3, gf1_4, gf1_5, gf1_6, gf1_7, gf1_8, gf1_9, gf1_10, gf1_11, gf2_0, gf2_1, gf2_2, gf3_0, gf3_1, gf4_0, gf4_1, gf4_2, gf5_0, gf5_1, gf5_2, gf5_3, gf6_0, gf6_1, gf6_2, gf6_3, gf6_4, gf6_5, gf6_6, gf7_0, gf7_1, gf7_2, gf7_3, gf7_4, gf7_5, pf0_0, pf0_1, pf0_2, pf1_0, pf1_1, pf1_2, pf1_3, pf1_4, pf1_5, pf1_6, pf1_7, pf1_8, pf1_9, pf1_10, pf1_11, pf2_0, pf2_1, pf2_2, pf3_0, pf3_1, pf4_0, pf4_1, pf4_2, pf5_0, pf5_1, pf5_2, pf5_3, pf6_0, pf6_1, pf6_2, pf6_3, pf6_4, pf6_5, pf6_6, pf7_0, pf7_1, pf7_2, pf7_3, pf7_4, pf7_5, gl, gf, g0H]
  rw [cpy_I (by decide) (by decide) (by decide)]
  refine hX _ _ ⟨hH.1, hH.2.1, fun q q1 q2 => ?_⟩ (hEH.set h1 h2 ok0) g_set (fun d hd2 => ?_) ⟨f, (g_ne (fun z => n0 z.symm)).trans gf⟩
  · simp at q1
    rw [g_ne q1.2]
    exact hH.2.2 q (by simp [q1.1]) q2
  · rw [pk_cpy_in (by omega) (by omega), show 0 + (d - 0) = d by omega]
    exact hf d hd2
end C17
