/-! THE CLASS: projectors made -/
section C19
variable {h H : ex_Hp} {X : Option Value → ex_Hp → Prop} {v a s p lo r0 al n : Nat}
abbrev sep (v a s al r0 : Nat) : Prop := (s + 9 ≤ a ∨ a + eO v + 9 ≤ s) ∧ (al + 4 ≤ a ∨ a + eO v + 9 ≤ al) ∧ (al + 4 ≤ s ∨ s + 4 ≤ al) ∧ okA v a s r0 ∧ (r0 < al ∨ al + 4 ≤ r0)
theorem invL_lt {x : Nat} : ∀ (n w : Nat), 1 ≤ w → invL p x n w < w + n := by
  intro n
  induction n with
  | zero => intro w hw; show 0 < w + 0; omega
  | succ n ih =>
    intro w hw
    rw [invL]
    split
    · omega
    · have := ih (w + 1) (by omega)
      omega
theorem iv_lt {x : Nat} (hp : 2 ≤ p) : iv p x < p := by
  have := invL_lt (p := p) (x := x) (p - 1) 1 (by omega)
  unfold iv
  omega
theorem l_mp18 (h1 : 1 ≤ v) (h2 : v ≤ 5) (hp : 2 ≤ p) (hp2 : p ≤ 101) (hlo : lo < p) (hsep : sep v a s al r0) (hn : n ≤ v) (hal : ex_g h al = some (oAl al)) (hX : ∀ H f, chX v a [al + 1, al + 2, al + 3, r0] h H → EN v a s p lo H → ex_g H r0 = some (cI 42 f) → (∀ d, d < 42 → f d = nI (pjZ v p lo (n - 1) d)) → isI (al + 1) H → isI (al + 2) H → isI (al + 3) H → X none H) : ∀ (m k : Nat) (H : ex_Hp) (f : Nat → Int32) (l6 : Value), m + k = n → 1 ≤ k → chX v a [al + 1, al + 2, al + 3, r0] h H → EN v a s p lo H → ex_g H r0 = some (cI 42 f) → (∀ d, d < 42 → f d = nI (pjZ v p lo (k - 1) d)) → isI (al + 1) H → isI (al + 2) H → isI (al + 3) H → ex_W 7 18 [.ref al, .ref s, .ref r0, .int (nI n), .ref (s + 1), .int (nI k), l6] [] H X := by
  have hC := tC_le h1 h2
  obtain ⟨hd, okl, oks, ok0, n0⟩ := hsep
  intro m
  induction m with
  | zero =>
    intro k H f l6 hm hk hH hE gf hf i1 i2 i3
    obtain rfl : k = n := by omega
    have gs := hE.1
    have ga := hE.2.2.2.2.1.1
    rw [s7_18]
    simp only [s7_0, s7_1, s7_4, s7_6, s7_7, s7_8, s7_11, s7_12, s7_13, s7_14, s7_15, s7_16, s7_20, s7_21, s7_24, s7_26, s7_27, s7_30, s7_33, s7_36, s7_37, s7_40, s7_41, s7_44, s7_45, s7_48, s7_49, s7_52, s7_55, s7_57, s7_58, s7_59, s7_60, s7_61, s7_62, s7_63, s7_66, s7_67, s7_68, s7_71, s7_74, s7_75, s7_76, s7_77, s7_80, s7_81, s7_84, s7_85, s7_88, s7_90, s7_92, s7_94, s7_95, s7_96, s7_99, s7_102, s7_104, s7_105, s7_106, s7_107, s7_110, s7_111, s7_114, s7_116, s7_118, s7_120, s7_123, s7_125, s7_128, s7_131, s7_132, s7_133, s7_134, s7_135, s7_136, s7_139, s7_142, s7_145, s7_148, is_O, opt_s, opt_n, cat_0, cat_i, cat_r, true_and, Nat.zero_le, Nat.reduceAdd, Nat.reduceLeDiff, al_I, as_I, rl_R, ln_I, ln_R, nI_add, pk_mul, g_set, set_set, not_false_eq_true, gf0_0, gf0_1, gf0_2, gf1_0, gf1_1, gf1_2, gf1_3, gf1_4, gf1_5, gf1_6, gf1_7, gf1_8, gf1_9, gf1_10, gf1_11, gf2_0, gf2_1, gf2_2, gf3_0, gf3_1, gf4_0, gf4_1, gf4_2, gf5_0, gf5_1, gf5_2, gf5_3, gf6_0, gf6_1, gf6_2, gf6_3, gf6_4, gf6_5, gf6_6, gf7_0, gf7_1, gf7_2, gf7_3, gf7_4, gf7_5, pf0_0, pf0_1, pf0_2, pf1_0, pf1_1, pf1_2, pf1_3, pf1_4, pf1_5, pf1_6, pf1_7, pf1_8, pf1_9, pf1_10, pf1_11, pf2_0, pf2_1, pf2_2, pf3_0, pf3_1, pf4_0, pf4_1, pf4_2, pf5_0, pf5_1, pf5_2, pf5_3, pf6_0, pf6_1, pf6_2, pf6_3, pf6_4, pf6_5, pf6_6, pf7_0, pf7_1, pf7_2, pf7_3, pf7_4, pf7_5, gs, ga]
    rw [if_pos ((nI_l1 (by omega) (by omega)).mpr (by omega))]
    exact hX H f hH hE gf hf i1 i2 i3
  | succ m ih =>
    intro k H f l6 hm hk hH hE gf hf i1 i2 i3
    obtain ⟨j, rfl⟩ : ∃ j, k = j + 1 := ⟨k - 1, by omega⟩
    rw [Nat.add_sub_cancel] at hf
    have hkv : j + 1 < v := by omega
    have hhk := tHk_lt h1 h2 hkv
    have gs := hE.1
    have ga := hE.2.2.2.2.1.1
    have gl : ex_g H al = some (oAl al) := (hH.2.2 al (by simp; omega) (by omega)).trans hal
    obtain ⟨f3, g3⟩ := i3
    rw [s7_18]
    simp only [s7_0, s7_1, s7_4, s7_6, s7_7, s7_8, s7_11, s7_12, s7_13, s7_14, s7_15, s7_16, s7_20, s7_21, s7_24, s7_26, s7_27, s7_30, s7_33, s7_36, s7_37, s7_40, s7_41, s7_44, s7_45, s7_48, s7_49, s7_52, s7_55, s7_57, s7_58, s7_59, s7_60, s7_61, s7_62, s7_63, s7_66, s7_67, s7_68, s7_71, s7_74, s7_75, s7_76, s7_77, s7_80, s7_81, s7_84, s7_85, s7_88, s7_90, s7_92, s7_94, s7_95, s7_96, s7_99, s7_102, s7_104, s7_105, s7_106, s7_107, s7_110, s7_111, s7_114, s7_116, s7_118, s7_120, s7_123, s7_125, s7_128, s7_131, s7_132, s7_133, s7_134, s7_135, s7_136, s7_139, s7_142, s7_145, s7_148, is_O, opt_s, opt_n, cat_0, cat_i, cat_r, true_and, Nat.zero_le, Nat.reduceAdd, Nat.reduceLeDiff, al_I, as_I, rl_R, ln_I, ln_R, nI_add, pk_mul, g_set, set_set, not_false_eq_true, gf0_0, gf0_1, gf0_2, gf1_0, gf1_1, gf1_2, gf1_3, gf1_4, gf1_5, gf1_6, gf1_7, gf1_8, gf1_9, gf1_10, gf1_11, gf2_0, gf2_1, gf2_2, gf3_0, gf3_1, gf4_0, gf4_1, gf4_2, gf5_0, gf5_1, gf5_2, gf5_3, gf6_0, gf6_1, gf6_2, gf6_3, gf6_4, gf6_5, gf6_6, gf7_0, gf7_1, gf7_2, gf7_3, gf7_4, gf7_5, pf0_0, pf0_1, pf0_2, pf1_0, pf1_1, pf1_2, pf1_3, pf1_4, pf1_5, pf1_6, pf1_7, pf1_8, pf1_9, pf1_10, pf1_11, pf2_0, pf2_1, pf2_2, pf3_0, pf3_1, pf4_0, pf4_1, pf4_2, pf5_0, pf5_1, pf5_2, pf5_3, pf6_0, pf6_1, pf6_2, pf6_3, pf6_4, pf6_5, pf6_6, pf7_0, pf7_1, pf7_2, pf7_3, pf7_4, pf7_5, gs, ga, gl]
    rw [if_neg (fun z => absurd ((nI_l1 (by omega) (by omega)).mp z) (by omega)), if_neg (fun z => absurd ((nI_l1 (by omega) (by omega)).mp z) (by omega))]
    refine m_fill (by decide) g3 (fun G g hG hg hgx => ?_)
    have hEG : EN v a s p lo G := hE.fr h1 h2 (fun q hq => hG.2.2 q (by simp; omega))
    have hHG : chX v a [al + 1, al + 2, al + 3, r0] h G := hH.c hG (by simp)
    have gsG := hEG.1
    have gaG := hEG.2.2.2.2.1.1
    obtain ⟨fh, gh, hfh⟩ := hEG.2.2.2.2.2.1
    have glG : ex_g G al = some (oAl al) := (hHG.2.2 al (by simp; omega) (by omega)).trans hal
    have na : ¬ al = al + 3 := by omega
    simp only [s7_0, s7_1, s7_4, s7_6, s7_7, s7_8, s7_11, s7_12, s7_13, s7_14, s7_15, s7_16, s7_20, s7_21, s7_24, s7_26, s7_27, s7_30, s7_33, s7_36, s7_37, s7_40, s7_41, s7_44, s7_45, s7_48, s7_49, s7_52, s7_55, s7_57, s7_58, s7_59, s7_60, s7_61, s7_62, s7_63, s7_66, s7_67, s7_68, s7_71, s7_74, s7_75, s7_76, s7_77, s7_80, s7_81, s7_84, s7_85, s7_88, s7_90, s7_92, s7_94, s7_95, s7_96, s7_99, s7_102, s7_104, s7_105, s7_106, s7_107, s7_110, s7_111, s7_114, s7_116, s7_118, s7_120, s7_123, s7_125, s7_128, s7_131, s7_132, s7_133, s7_134, s7_135, s7_136, s7_139, s7_142, s7_145, s7_148, is_O, opt_s, opt_n, cat_0, cat_i, cat_r, true_and, Nat.zero_le, Nat.reduceAdd, Nat.reduceLeDiff, al_I, as_I, rl_R, ln_I, ln_R, nI_add, pk_mul, g_set, set_set, not_false_eq_true, gf0_0, gf0_1, gf0_2, gf1_0, gf1_1, gf1_2, gf1_3, gf1_4, gf1_5, gf1_6, gf1_7, gf1_8, gf1_9, gf1_10, gf1_11, gf2_0, gf2_1, gf2_2, gf3_0, gf3_1, gf4_0, gf4_1, gf4_2, gf5_0, gf5_1, gf5_2, gf5_3, gf6_0, gf6_1, gf6_2, gf6_3, gf6_4, gf6_5, gf6_6, gf7_0, gf7_1, gf7_2, gf7_3, gf7_4, gf7_5, pf0_0, pf0_1, pf0_2, pf1_0, pf1_1, pf1_2, pf1_3, pf1_4, pf1_5, pf1_6, pf1_7, pf1_8, pf1_9, pf1_10, pf1_11, pf2_0, pf2_1, pf2_2, pf3_0, pf3_1, pf4_0, pf4_1, pf4_2, pf5_0, pf5_1, pf5_2, pf5_3, pf6_0, pf6_1, pf6_2, pf6_3, pf6_4, pf6_5, pf6_6, pf7_0, pf7_1, pf7_2, pf7_3, pf7_4, pf7_5, glG, gsG, gaG, gh, xi_n hkv (show v < 2147483648 by omega), hfh (j + 1) hk hkv, hg, xi_n (show tHk v (j + 1) < 42 by omega) (show 42 < 2147483648 by decide), g_ne na]
    have hE1 := hEG.set (r := al + 3) (c := cI 42 (upd g (tHk v (j + 1)) (nI 1))) h1 h2 ⟨by omega, by omega⟩
    have hc1 := hHG.set (q := al + 3) (c := cI 42 (upd g (tHk v (j + 1)) (nI 1))) (by simp)
    obtain ⟨fr, gr⟩ := i1
    obtain ⟨fb, gb⟩ := i2
    have nn1 : ¬ al + 1 = al + 3 := by omega
    have nn2 : ¬ al + 2 = al + 3 := by omega
    have nn0 : ¬ r0 = al + 3 := by omega
    have mG : ∀ q, ¬ q = al + 3 → ex_g G q = ex_g H q := fun q hq => hG.2.2 q (by simp [hq])
    refine m_pile (L := pjZ v p lo j) (R := fun e => if e = tHk v (j + 1) then 1 else 0) h1 h2 hp hp2 hd okl ⟨by omega, by omega⟩ (by omega) (by omega) ⟨by omega, by omega⟩ (by omega) (by omega) (by omega) (fun d => pjZ_lt hp) (fun d => by show (if d = tHk v (j + 1) then 1 else 0) < p; split <;> omega) ((g_ne na).trans glG) hE1 ⟨f, (g_ne nn0).trans ((mG _ nn0).trans gf), fun d _ hd2 => hf d hd2⟩ ⟨_, g_set, fun d _ hd2 => ?_⟩ ((g_ne nn1).trans ((mG _ nn1).trans gr)) ((g_ne nn2).trans ((mG _ nn2).trans gb)) (fun K fk cK eK gK hK iK => ?_)
    · by_cases hc : d = tHk v (j + 1)
      · rw [hc, pk_us]
        exact (congrArg nI (if_pos rfl)).symm
      · rw [pk_un hc, hgx d hd2]
        exact (congrArg nI (if_neg hc)).symm
    have cK' : chX v a [al + 1, al + 2, al + 3, r0] h K := hc1.trans (cK.sub (by simp))
    have gsK := eK.1
    have gnK := eK.2.1
    have glK : ex_g K al = some (oAl al) := (cK'.2.2 al (by simp; omega) (by omega)).trans hal
    have g0K : ex_g K r0 = some (cI 42 f) := (cK.2.2 r0 (by simp; omega) (by omega)).trans ((g_ne nn0).trans ((mG _ nn0).trans gf))
    have g3K : isI (al + 3) K := ⟨_, (cK.2.2 (al + 3) (by simp) (by omega)).trans g_set⟩
    simp only [s7_0, s7_1, s7_4, s7_6, s7_7, s7_8, s7_11, s7_12, s7_13, s7_14, s7_15, s7_16, s7_20, s7_21, s7_24, s7_26, s7_27, s7_30, s7_33, s7_36, s7_37, s7_40, s7_41, s7_44, s7_45, s7_48, s7_49, s7_52, s7_55, s7_57, s7_58, s7_59, s7_60, s7_61, s7_62, s7_63, s7_66, s7_67, s7_68, s7_71, s7_74, s7_75, s7_76, s7_77, s7_80, s7_81, s7_84, s7_85, s7_88, s7_90, s7_92, s7_94, s7_95, s7_96, s7_99, s7_102, s7_104, s7_105, s7_106, s7_107, s7_110, s7_111, s7_114, s7_116, s7_118, s7_120, s7_123, s7_125, s7_128, s7_131, s7_132, s7_133, s7_134, s7_135, s7_136, s7_139, s7_142, s7_145, s7_148, is_O, opt_s, opt_n, cat_0, cat_i, cat_r, true_and, Nat.zero_le, Nat.reduceAdd, Nat.reduceLeDiff, al_I, as_I, rl_R, ln_I, ln_R, nI_add, pk_mul, g_set, set_set, not_false_eq_true, gf0_0, gf0_1, gf0_2, gf1_0, gf1_1, gf1_2, gf1_3, gf1_4, gf1_5, gf1_6, gf1_7, gf1_8, gf1_9, gf1_10, gf1_11, gf2_0, gf2_1, gf2_2, gf3_0, gf3_1, gf4_0, gf4_1, gf4_2, gf5_0, gf5_1, gf5_2, gf5_3, gf6_0, gf6_1, gf6_2, gf6_3, gf6_4, gf6_5, gf6_6, gf7_0, gf7_1, gf7_2, gf7_3, gf7_4, gf7_5, pf0_0, pf0_1, pf0_2, pf1_0, pf1_1, pf1_2, pf1_3, pf1_4, pf1_5, pf1_6, pf1_7, pf1_8, pf1_9, pf1_10, pf1_11, pf2_0, pf2_1, pf2_2, pf3_0, pf3_1, pf4_0, pf4_1, pf4_2, pf5_0, pf5_1, pf5_2, pf5_3, pf6_0, pf6_1, pf6_2, pf6_3, pf6_4, pf6_5, pf6_6, pf7_0, pf7_1, pf7_2, pf7_3, pf7_4, pf7_5, glK]
    obtain ⟨fr2, gr2⟩ := iK
    refine m_pile (L := pil v p lo (pjZ v p lo j) (fun e => if e = tHk v (j + 1) then 1 else 0)) (R := pjZ v p lo j) h1 h2 hp hp2 hd okl ⟨by omega, by omega⟩ (by omega) (by omega) ⟨by omega, by omega⟩ (by omega) (by omega) (by omega) (fun d => pil_lt (by omega)) (fun d => pjZ_lt hp) glK eK ⟨fk, gK, fun d _ hd2 => hK d hd2⟩ ⟨f, g0K, fun d _ hd2 => hf d hd2⟩ gr2 gK (fun M fm cM eM gM hM iM => ?_)
    have cM' : chX v a [al + 1, al + 2, al + 3, r0] h M := cK'.trans (cM.sub (by simp))
    have gsM := eM.1
    have gnM := eM.2.1
    have glM : ex_g M al = some (oAl al) := (cM'.2.2 al (by simp; omega) (by omega)).trans hal
    have g0M : ex_g M r0 = some (cI 42 f) := (cM.2.2 r0 (by simp; omega) (by omega)).trans g0K
    have g3M : isI (al + 3) M := by
      obtain ⟨z, z1⟩ := g3K
      exact ⟨z, (cM.2.2 (al + 3) (by simp) (by omega)).trans z1⟩
    have hbl : bk p lo (j + 1) < p := (bkp_lt (p := p) (lo := lo) hp (j + 1)).1
    have hbl2 : bk p lo (j + 1 + 1) < p := (bkp_lt (p := p) (lo := lo) hp (j + 1 + 1)).1
    have hiv : iv p (bk p lo (j + 1 + 1)) < p := iv_lt hp
    have bz : bk p lo (j + 1) * iv p (bk p lo (j + 1 + 1)) < 2147483648 := by
      have : bk p lo (j + 1) * iv p (bk p lo (j + 1 + 1)) ≤ 101 * 101 := Nat.mul_le_mul (by omega) (by omega)
      omega
    have hz : bk p lo (j + 1) * iv p (bk p lo (j + 1 + 1)) % p < p := Nat.mod_lt _ (by omega)
    simp only [s7_0, s7_1, s7_4, s7_6, s7_7, s7_8, s7_11, s7_12, s7_13, s7_14, s7_15, s7_16, s7_20, s7_21, s7_24, s7_26, s7_27, s7_30, s7_33, s7_36, s7_37, s7_40, s7_41, s7_44, s7_45, s7_48, s7_49, s7_52, s7_55, s7_57, s7_58, s7_59, s7_60, s7_61, s7_62, s7_63, s7_66, s7_67, s7_68, s7_71, s7_74, s7_75, s7_76, s7_77, s7_80, s7_81, s7_84, s7_85, s7_88, s7_90, s7_92, s7_94, s7_95, s7_96, s7_99, s7_102, s7_104, s7_105, s7_106, s7_107, s7_110, s7_111, s7_114, s7_116, s7_118, s7_120, s7_123, s7_125, s7_128, s7_131, s7_132, s7_133, s7_134, s7_135, s7_136, s7_139, s7_142, s7_145, s7_148, is_O, opt_s, opt_n, cat_0, cat_i, cat_r, true_and, Nat.zero_le, Nat.reduceAdd, Nat.reduceLeDiff, al_I, as_I, rl_R, ln_I, ln_R, nI_add, pk_mul, g_set, set_set, not_false_eq_true, gf0_0, gf0_1, gf0_2, gf1_0, gf1_1, gf1_2, gf1_3, gf1_4, gf1_5, gf1_6, gf1_7, gf1_8, gf1_9, gf1_10, gf1_11, gf2_0, gf2_1, gf2_2, gf3_0, gf3_1, gf4_0, gf4_1, gf4_2, gf5_0, gf5_1, gf5_2, gf5_3, gf6_0, gf6_1, gf6_2, gf6_3, gf6_4, gf6_5, gf6_6, gf7_0, gf7_1, gf7_2, gf7_3, gf7_4, gf7_5, pf0_0, pf0_1, pf0_2, pf1_0, pf1_1, pf1_2, pf1_3, pf1_4, pf1_5, pf1_6, pf1_7, pf1_8, pf1_9, pf1_10, pf1_11, pf2_0, pf2_1, pf2_2, pf3_0, pf3_1, pf4_0, pf4_1, pf4_2, pf5_0, pf5_1, pf5_2, pf5_3, pf6_0, pf6_1, pf6_2, pf6_3, pf6_4, pf6_5, pf6_6, pf7_0, pf7_1, pf7_2, pf7_3, pf7_4, pf7_5, glM, gnM]
    refine m_bracketOf (by omega) hp hp2 hlo gnM ?_
    simp only [s7_0, s7_1, s7_4, s7_6, s7_7, s7_8, s7_11, s7_12, s7_13, s7_14, s7_15, s7_16, s7_20, s7_21, s7_24, s7_26, s7_27, s7_30, s7_33, s7_36, s7_37, s7_40, s7_41, s7_44, s7_45, s7_48, s7_49, s7_52, s7_55, s7_57, s7_58, s7_59, s7_60, s7_61, s7_62, s7_63, s7_66, s7_67, s7_68, s7_71, s7_74, s7_75, s7_76, s7_77, s7_80, s7_81, s7_84, s7_85, s7_88, s7_90, s7_92, s7_94, s7_95, s7_96, s7_99, s7_102, s7_104, s7_105, s7_106, s7_107, s7_110, s7_111, s7_114, s7_116, s7_118, s7_120, s7_123, s7_125, s7_128, s7_131, s7_132, s7_133, s7_134, s7_135, s7_136, s7_139, s7_142, s7_145, s7_148, is_O, opt_s, opt_n, cat_0, cat_i, cat_r, true_and, Nat.zero_le, Nat.reduceAdd, Nat.reduceLeDiff, al_I, as_I, rl_R, ln_I, ln_R, nI_add, pk_mul, g_set, set_set, not_false_eq_true, gf0_0, gf0_1, gf0_2, gf1_0, gf1_1, gf1_2, gf1_3, gf1_4, gf1_5, gf1_6, gf1_7, gf1_8, gf1_9, gf1_10, gf1_11, gf2_0, gf2_1, gf2_2, gf3_0, gf3_1, gf4_0, gf4_1, gf4_2, gf5_0, gf5_1, gf5_2, gf5_3, gf6_0, gf6_1, gf6_2, gf6_3, gf6_4, gf6_5, gf6_6, gf7_0, gf7_1, gf7_2, gf7_3, gf7_4, gf7_5, pf0_0, pf0_1, pf0_2, pf1_0, pf1_1, pf1_2, pf1_3, pf1_4, pf1_5, pf1_6, pf1_7, pf1_8, pf1_9, pf1_10, pf1_11, pf2_0, pf2_1, pf2_2, pf3_0, pf3_1, pf4_0, pf4_1, pf4_2, pf5_0, pf5_1, pf5_2, pf5_3, pf6_0, pf6_1, pf6_2, pf6_3, pf6_4, pf6_5, pf6_6, pf7_0, pf7_1, pf7_2, pf7_3, pf7_4, pf7_5, glM, gnM]
    refine m_inverse hp hp2 hbl2 gnM ?_
    simp only [s7_0, s7_1, s7_4, s7_6, s7_7, s7_8, s7_11, s7_12, s7_13, s7_14, s7_15, s7_16, s7_20, s7_21, s7_24, s7_26, s7_27, s7_30, s7_33, s7_36, s7_37, s7_40, s7_41, s7_44, s7_45, s7_48, s7_49, s7_52, s7_55, s7_57, s7_58, s7_59, s7_60, s7_61, s7_62, s7_63, s7_66, s7_67, s7_68, s7_71, s7_74, s7_75, s7_76, s7_77, s7_80, s7_81, s7_84, s7_85, s7_88, s7_90, s7_92, s7_94, s7_95, s7_96, s7_99, s7_102, s7_104, s7_105, s7_106, s7_107, s7_110, s7_111, s7_114, s7_116, s7_118, s7_120, s7_123, s7_125, s7_128, s7_131, s7_132, s7_133, s7_134, s7_135, s7_136, s7_139, s7_142, s7_145, s7_148, is_O, opt_s, opt_n, cat_0, cat_i, cat_r, true_and, Nat.zero_le, Nat.reduceAdd, Nat.reduceLeDiff, al_I, as_I, rl_R, ln_I, ln_R, nI_add, pk_mul, g_set, set_set, not_false_eq_true, gf0_0, gf0_1, gf0_2, gf1_0, gf1_1, gf1_2, gf1_3, gf1_4, gf1_5, gf1_6, gf1_7, gf1_8, gf1_9, gf1_10, gf1_11, gf2_0, gf2_1, gf2_2, gf3_0, gf3_1, gf4_0, gf4_1, gf4_2, gf5_0, gf5_1, gf5_2, gf5_3, gf6_0, gf6_1, gf6_2, gf6_3, gf6_4, gf6_5, gf6_6, gf7_0, gf7_1, gf7_2, gf7_3, gf7_4, gf7_5, pf0_0, pf0_1, pf0_2, pf1_0, pf1_1, pf1_2, pf1_3, pf1_4, pf1_5, pf1_6, pf1_7, pf1_8, pf1_9, pf1_10, pf1_11, pf2_0, pf2_1, pf2_2, pf3_0, pf3_1, pf4_0, pf4_1, pf4_2, pf5_0, pf5_1, pf5_2, pf5_3, pf6_0, pf6_1, pf6_2, pf6_3, pf6_4, pf6_5, pf6_6, pf7_0, pf7_1, pf7_2, pf7_3, pf7_4, pf7_5, glM, gnM]
    refine m_bracketOf (by omega) hp hp2 hlo gnM ?_
    simp only [s7_0, s7_1, s7_4, s7_6, s7_7, s7_8, s7_11, s7_12, s7_13, s7_14, s7_15, s7_16, s7_20, s7_21, s7_24, s7_26, s7_27, s7_30, s7_33, s7_36, s7_37, s7_40, s7_41, s7_44, s7_45, s7_48, s7_49, s7_52, s7_55, s7_57, s7_58, s7_59, s7_60, s7_61, s7_62, s7_63, s7_66, s7_67, s7_68, s7_71, s7_74, s7_75, s7_76, s7_77, s7_80, s7_81, s7_84, s7_85, s7_88, s7_90, s7_92, s7_94, s7_95, s7_96, s7_99, s7_102, s7_104, s7_105, s7_106, s7_107, s7_110, s7_111, s7_114, s7_116, s7_118, s7_120, s7_123, s7_125, s7_128, s7_131, s7_132, s7_133, s7_134, s7_135, s7_136, s7_139, s7_142, s7_145, s7_148, is_O, opt_s, opt_n, cat_0, cat_i, cat_r, true_and, Nat.zero_le, Nat.reduceAdd, Nat.reduceLeDiff, al_I, as_I, rl_R, ln_I, ln_R, nI_add, pk_mul, g_set, set_set, not_false_eq_true, gf0_0, gf0_1, gf0_2, gf1_0, gf1_1, gf1_2, gf1_3, gf1_4, gf1_5, gf1_6, gf1_7, gf1_8, gf1_9, gf1_10, gf1_11, gf2_0, gf2_1, gf2_2, gf3_0, gf3_1, gf4_0, gf4_1, gf4_2, gf5_0, gf5_1, gf5_2, gf5_3, gf6_0, gf6_1, gf6_2, gf6_3, gf6_4, gf6_5, gf6_6, gf7_0, gf7_1, gf7_2, gf7_3, gf7_4, gf7_5, pf0_0, pf0_1, pf0_2, pf1_0, pf1_1, pf1_2, pf1_3, pf1_4, pf1_5, pf1_6, pf1_7, pf1_8, pf1_9, pf1_10, pf1_11, pf2_0, pf2_1, pf2_2, pf3_0, pf3_1, pf4_0, pf4_1, pf4_2, pf5_0, pf5_1, pf5_2, pf5_3, pf6_0, pf6_1, pf6_2, pf6_3, pf6_4, pf6_5, pf6_6, pf7_0, pf7_1, pf7_2, pf7_3, pf7_4, pf7_5, glM, gnM, m_mul gnM, nF_n hp (show p < 32768 by omega) bz]
    refine m_sScale (T := pil v p lo (pil v p lo (pjZ v p lo j) (fun e => if e = tHk v (j + 1) then 1 else 0)) (pjZ v p lo j)) (L := pil v p lo (pil v p lo (pjZ v p lo j) (fun e => if e = tHk v (j + 1) then 1 else 0)) (pjZ v p lo j)) h1 h2 hp hp2 ⟨by omega, by omega⟩ eM (fun d => pil_lt (by omega)) hz ⟨fm, gM, fun d _ hd2 => hM d hd2⟩ gM hM (fun Q fq cQ eQ gQ hQ => ?_)
    have g0Q : ex_g Q r0 = some (cI 42 f) := (cQ.2.2 r0 (by simp; omega)).trans g0M
    have glQ : ex_g Q al = some (oAl al) := (cQ.2.2 al (by simp)).trans glM
    simp only [s7_0, s7_1, s7_4, s7_6, s7_7, s7_8, s7_11, s7_12, s7_13, s7_14, s7_15, s7_16, s7_20, s7_21, s7_24, s7_26, s7_27, s7_30, s7_33, s7_36, s7_37, s7_40, s7_41, s7_44, s7_45, s7_48, s7_49, s7_52, s7_55, s7_57, s7_58, s7_59, s7_60, s7_61, s7_62, s7_63, s7_66, s7_67, s7_68, s7_71, s7_74, s7_75, s7_76, s7_77, s7_80, s7_81, s7_84, s7_85, s7_88, s7_90, s7_92, s7_94, s7_95, s7_96, s7_99, s7_102, s7_104, s7_105, s7_106, s7_107, s7_110, s7_111, s7_114, s7_116, s7_118, s7_120, s7_123, s7_125, s7_128, s7_131, s7_132, s7_133, s7_134, s7_135, s7_136, s7_139, s7_142, s7_145, s7_148, is_O, opt_s, opt_n, cat_0, cat_i, cat_r, true_and, Nat.zero_le, Nat.reduceAdd, Nat.reduceLeDiff, al_I, as_I, rl_R, ln_I, ln_R, nI_add, pk_mul, g_set, set_set, not_false_eq_true, gf0_0, gf0_1, gf0_2, gf1_0, gf1_1, gf1_2, gf1_3, gf1_4, gf1_5, gf1_6, gf1_7, gf1_8, gf1_9, gf1_10, gf1_11, gf2_0, gf2_1, gf2_2, gf3_0, gf3_1, gf4_0, gf4_1, gf4_2, gf5_0, gf5_1, gf5_2, gf5_3, gf6_0, gf6_1, gf6_2, gf6_3, gf6_4, gf6_5, gf6_6, gf7_0, gf7_1, gf7_2, gf7_3, gf7_4, gf7_5, pf0_0, pf0_1, pf0_2, pf1_0, pf1_1, pf1_2, pf1_3, pf1_4, pf1_5, pf1_6, pf1_7, pf1_8, pf1_9, pf1_10, pf1_11, pf2_0, pf2_1, pf2_2, pf3_0, pf3_1, pf4_0, pf4_1, pf4_2, pf5_0, pf5_1, pf5_2, pf5_3, pf6_0, pf6_1, pf6_2, pf6_3, pf6_4, pf6_5, pf6_6, pf7_0, pf7_1, pf7_2, pf7_3, pf7_4, pf7_5, glQ]
    refine m_sSub (T := pjZ v p lo j) (L := pjZ v p lo j) (R := fun d => if d < tC v then pil v p lo (pil v p lo (pjZ v p lo j) (fun e => if e = tHk v (j + 1) then 1 else 0)) (pjZ v p lo j) d * (bk p lo (j + 1) * iv p (bk p lo (j + 1 + 1)) % p) % p else pil v p lo (pil v p lo (pjZ v p lo j) (fun e => if e = tHk v (j + 1) then 1 else 0)) (pjZ v p lo j) d) h1 h2 hp hp2 ok0 eQ (fun d => pjZ_lt hp) (fun d => ?_) ⟨f, g0Q, fun d _ hd2 => hf d hd2⟩ ⟨fq, gQ, fun d _ hd2 => hQ d hd2⟩ g0Q hf (fun Z fz cZ eZ gZ hZ => ?_)
    · show (if d < tC v then _ else _) < p
      split
      · exact Nat.mod_lt _ (by omega)
      · exact pil_lt (by omega)
    simp only [s7_0, s7_1, s7_4, s7_6, s7_7, s7_8, s7_11, s7_12, s7_13, s7_14, s7_15, s7_16, s7_20, s7_21, s7_24, s7_26, s7_27, s7_30, s7_33, s7_36, s7_37, s7_40, s7_41, s7_44, s7_45, s7_48, s7_49, s7_52, s7_55, s7_57, s7_58, s7_59, s7_60, s7_61, s7_62, s7_63, s7_66, s7_67, s7_68, s7_71, s7_74, s7_75, s7_76, s7_77, s7_80, s7_81, s7_84, s7_85, s7_88, s7_90, s7_92, s7_94, s7_95, s7_96, s7_99, s7_102, s7_104, s7_105, s7_106, s7_107, s7_110, s7_111, s7_114, s7_116, s7_118, s7_120, s7_123, s7_125, s7_128, s7_131, s7_132, s7_133, s7_134, s7_135, s7_136, s7_139, s7_142, s7_145, s7_148, is_O, opt_s, opt_n, cat_0, cat_i, cat_r, true_and, Nat.zero_le, Nat.reduceAdd, Nat.reduceLeDiff, al_I, as_I, rl_R, ln_I, ln_R, nI_add, pk_mul, g_set, set_set, not_false_eq_true, gf0_0, gf0_1, gf0_2, gf1_0, gf1_1, gf1_2, gf1_3, gf1_4, gf1_5, gf1_6, gf1_7, gf1_8, gf1_9, gf1_10, gf1_11, gf2_0, gf2_1, gf2_2, gf3_0, gf3_1, gf4_0, gf4_1, gf4_2, gf5_0, gf5_1, gf5_2, gf5_3, gf6_0, gf6_1, gf6_2, gf6_3, gf6_4, gf6_5, gf6_6, gf7_0, gf7_1, gf7_2, gf7_3, gf7_4, gf7_5, pf0_0, pf0_1, pf0_2, pf1_0, pf1_1, pf1_2, pf1_3, pf1_4, pf1_5, pf1_6, pf1_7, pf1_8, pf1_9, pf1_10, pf1_11, pf2_0, pf2_1, pf2_2, pf3_0, pf3_1, pf4_0, pf4_1, pf4_2, pf5_0, pf5_1, pf5_2, pf5_3, pf6_0, pf6_1, pf6_2, pf6_3, pf6_4, pf6_5, pf6_6, pf7_0, pf7_1, pf7_2, pf7_3, pf7_4, pf7_5]
    have i1Z : isI (al + 1) Z := by
      obtain ⟨z, z1⟩ := iM
      exact ⟨z, (cZ.2.2 _ (by simp; omega)).trans ((cQ.2.2 _ (by simp)).trans z1)⟩
    have i3Z : isI (al + 3) Z := by
      obtain ⟨z, z1⟩ := g3M
      exact ⟨z, (cZ.2.2 _ (by simp; omega)).trans ((cQ.2.2 _ (by simp)).trans z1)⟩
    refine ih (j + 1 + 1) Z fz _ (by omega) (by omega) ((cM'.c cQ (by simp)).c cZ (by simp)) eZ gZ (fun d hd2 => ?_) i1Z ⟨fq, (cZ.2.2 _ (by simp; omega)).trans gQ⟩ i3Z
    rw [hZ d hd2, Nat.add_sub_cancel]
    refine congrArg nI ?_
    have e1 : pil v p lo (pjZ v p lo j) (fun e => if e = tHk v (j + 1) then 1 else 0) = pil v p lo (prj v p lo j) (fun e => if e = tHk v (j + 1) then 1 else 0) := pil_c (fun e he => if_pos he) (fun _ _ => rfl)
    have e2 : pil v p lo (pil v p lo (prj v p lo j) (fun e => if e = tHk v (j + 1) then 1 else 0)) (pjZ v p lo j) = pil v p lo (pil v p lo (prj v p lo j) (fun e => if e = tHk v (j + 1) then 1 else 0)) (prj v p lo j) := pil_c (fun _ _ => rfl) (fun e he => if_pos he)
    unfold pjZ at *
    by_cases hc : d < tC v
    · simp only [if_pos hc]
      show _ = (prj v p lo j d + p - (bk p lo (j + 1) * iv p (bk p lo (j + 1 + 1)) % p * pil v p lo (pil v p lo (prj v p lo j) (fun e => if e = tHk v (j + 1) then 1 else 0)) (prj v p lo j) d) % p) % p
      rw [e1, e2, Nat.mul_comm (pil v p lo _ _ d)]
    · simp only [if_neg hc]
end C19
