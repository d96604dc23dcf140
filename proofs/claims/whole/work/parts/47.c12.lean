/-! THE CLASS: the pad -/
section C12
variable {h H : ex_Hp} {X : Option Value → ex_Hp → Prop} {v pd pa N : Nat} {f : Nat → Int32}
abbrev oPd (pa N : Nat) : ex_AC := cO 3 [.ref pa, .int (nI N)]
theorem m_isFull (hN : N ≤ 24) (hp : ex_g h pd = some (oPd pa N)) : ex_W 37 0 [.ref pd] [] h X ↔ X (some (.int (if N = 24 then nI 1 else nI 0))) h := by
  simp only [s37_0, s37_1, s37_4, s37_6, s37_9, s37_10, s37_13, s37_14, is_O, opt_s, opt_n, cat_0, cat_i, cat_r, true_and, Nat.zero_le, Nat.reduceAdd, Nat.reduceLeDiff, al_I, as_I, rl_R, ln_I, ln_R, nI_add, pk_mul, g_set, set_set, not_false_eq_true, gf0_0, gf0_1, gf0_2, gf1_0, gf1_1, gf1_2, gf1_3, gf1_4, gf1_5, gf1_6, gf1_7, gf1_8, gf1_9, gf1_10, gf1_11, gf2_0, gf2_1, gf2_2, gf3_0, gf3_1, gf4_0, gf4_1, gf4_2, gf5_0, gf5_1, gf5_2, gf5_3, gf6_0, gf6_1, gf6_2, gf6_3, gf6_4, gf6_5, gf6_6, gf7_0, gf7_1, gf7_2, gf7_3, gf7_4, gf7_5, pf0_0, pf0_1, pf0_2, pf1_0, pf1_1, pf1_2, pf1_3, pf1_4, pf1_5, pf1_6, pf1_7, pf1_8, pf1_9, pf1_10, pf1_11, pf2_0, pf2_1, pf2_2, pf3_0, pf3_1, pf4_0, pf4_1, pf4_2, pf5_0, pf5_1, pf5_2, pf5_3, pf6_0, pf6_1, pf6_2, pf6_3, pf6_4, pf6_5, pf6_6, pf7_0, pf7_1, pf7_2, pf7_3, pf7_4, pf7_5, hp]
  by_cases hc : N = 24
  · rw [if_neg (fun z => absurd ((nI_l2 (by omega) (by omega)).mp z) (by omega)), if_pos hc]
    simp
  · rw [if_pos ((nI_l2 (by omega) (by omega)).mpr (by omega)), if_neg hc]
    simp
theorem m_padAdd {x : Int32} (hN : N < 24) (hp : ex_g h pd = some (oPd pa N)) (ha : ex_g h pa = some (cI 24 f)) (hne : ¬ pd = pa) : ex_W 38 0 [.ref pd, .int x] [] h X ↔ X none (ex_set (ex_set h pa (cI 24 (upd f N x))) pd (oPd pa (N + 1))) := by
  simp only [s38_0, s38_1, s38_4, s38_6, s38_9, s38_10, s38_13, s38_14, s38_17, s38_18, s38_19, s38_20, s38_21, s38_24, s38_25, s38_26, s38_29, is_O, opt_s, opt_n, cat_0, cat_i, cat_r, true_and, Nat.zero_le, Nat.reduceAdd, Nat.reduceLeDiff, al_I, as_I, rl_R, ln_I, ln_R, nI_add, pk_mul, g_set, set_set, not_false_eq_true, gf0_0, gf0_1, gf0_2, gf1_0, gf1_1, gf1_2, gf1_3, gf1_4, gf1_5, gf1_6, gf1_7, gf1_8, gf1_9, gf1_10, gf1_11, gf2_0, gf2_1, gf2_2, gf3_0, gf3_1, gf4_0, gf4_1, gf4_2, gf5_0, gf5_1, gf5_2, gf5_3, gf6_0, gf6_1, gf6_2, gf6_3, gf6_4, gf6_5, gf6_6, gf7_0, gf7_1, gf7_2, gf7_3, gf7_4, gf7_5, pf0_0, pf0_1, pf0_2, pf1_0, pf1_1, pf1_2, pf1_3, pf1_4, pf1_5, pf1_6, pf1_7, pf1_8, pf1_9, pf1_10, pf1_11, pf2_0, pf2_1, pf2_2, pf3_0, pf3_1, pf4_0, pf4_1, pf4_2, pf5_0, pf5_1, pf5_2, pf5_3, pf6_0, pf6_1, pf6_2, pf6_3, pf6_4, pf6_5, pf6_6, pf7_0, pf7_1, pf7_2, pf7_3, pf7_4, pf7_5, hp, ha, xi_n (show N < 24 by omega) (show 24 < 2147483648 by decide), g_ne hne]
  rw [if_neg (fun z => absurd ((nI_l1 (by omega) (by omega)).mp z) (by omega))]
theorem m_padClear (hp : ex_g h pd = some (oPd pa N)) : ex_W 39 0 [.ref pd] [] h X ↔ X none (ex_set h pd (oPd pa 0)) := by
  simp only [s39_0, s39_1, s39_2, s39_5, is_O, opt_s, opt_n, cat_0, cat_i, cat_r, true_and, Nat.zero_le, Nat.reduceAdd, Nat.reduceLeDiff, al_I, as_I, rl_R, ln_I, ln_R, nI_add, pk_mul, g_set, set_set, not_false_eq_true, gf0_0, gf0_1, gf0_2, gf1_0, gf1_1, gf1_2, gf1_3, gf1_4, gf1_5, gf1_6, gf1_7, gf1_8, gf1_9, gf1_10, gf1_11, gf2_0, gf2_1, gf2_2, gf3_0, gf3_1, gf4_0, gf4_1, gf4_2, gf5_0, gf5_1, gf5_2, gf5_3, gf6_0, gf6_1, gf6_2, gf6_3, gf6_4, gf6_5, gf6_6, gf7_0, gf7_1, gf7_2, gf7_3, gf7_4, gf7_5, pf0_0, pf0_1, pf0_2, pf1_0, pf1_1, pf1_2, pf1_3, pf1_4, pf1_5, pf1_6, pf1_7, pf1_8, pf1_9, pf1_10, pf1_11, pf2_0, pf2_1, pf2_2, pf3_0, pf3_1, pf4_0, pf4_1, pf4_2, pf5_0, pf5_1, pf5_2, pf5_3, pf6_0, pf6_1, pf6_2, pf6_3, pf6_4, pf6_5, pf6_6, pf7_0, pf7_1, pf7_2, pf7_3, pf7_4, pf7_5, hp]
theorem l_cdf (h1 : 1 ≤ v) (h2 : v ≤ 5) (hN : N ≤ 24) (hp : ex_g h pd = some (oPd pa N)) (ha : ex_g h pa = some (cI 24 f)) : ∀ (n i b e : Nat), n + i = N → e ≤ b → b ≤ v → i = b + e → X (some (.int (dft f v n i b e))) h → ex_W 40 7 [.ref pd, .int (nI v), .int (nI b), .int (nI e), .int (nI i)] [] h X := by
  intro n
  induction n with
  | zero =>
    intro i b e hni heb hbv hi hX
    obtain rfl : i = N := by omega
    rw [s40_7]
    simp only [s40_0, s40_1, s40_2, s40_3, s40_4, s40_5, s40_9, s40_10, s40_13, s40_16, s40_17, s40_20, s40_22, s40_23, s40_25, s40_28, s40_29, s40_30, s40_33, s40_36, s40_39, s40_40, s40_43, s40_45, s40_46, s40_48, s40_51, s40_52, s40_53, s40_56, s40_59, s40_62, s40_64, s40_65, s40_68, s40_71, s40_72, s40_75, s40_76, s40_77, s40_78, s40_81, s40_82, s40_85, s40_88, s40_90, is_O, opt_s, opt_n, cat_0, cat_i, cat_r, true_and, Nat.zero_le, Nat.reduceAdd, Nat.reduceLeDiff, al_I, as_I, rl_R, ln_I, ln_R, nI_add, pk_mul, g_set, set_set, not_false_eq_true, gf0_0, gf0_1, gf0_2, gf1_0, gf1_1, gf1_2, gf1_3, gf1_4, gf1_5, gf1_6, gf1_7, gf1_8, gf1_9, gf1_10, gf1_11, gf2_0, gf2_1, gf2_2, gf3_0, gf3_1, gf4_0, gf4_1, gf4_2, gf5_0, gf5_1, gf5_2, gf5_3, gf6_0, gf6_1, gf6_2, gf6_3, gf6_4, gf6_5, gf6_6, gf7_0, gf7_1, gf7_2, gf7_3, gf7_4, gf7_5, pf0_0, pf0_1, pf0_2, pf1_0, pf1_1, pf1_2, pf1_3, pf1_4, pf1_5, pf1_6, pf1_7, pf1_8, pf1_9, pf1_10, pf1_11, pf2_0, pf2_1, pf2_2, pf3_0, pf3_1, pf4_0, pf4_1, pf4_2, pf5_0, pf5_1, pf5_2, pf5_3, pf6_0, pf6_1, pf6_2, pf6_3, pf6_4, pf6_5, pf6_6, pf7_0, pf7_1, pf7_2, pf7_3, pf7_4, pf7_5, hp]
    rw [if_pos ((nI_l1 (by omega) (by omega)).mpr (by omega))]
    rw [dft] at hX
    by_cases hiv : i = 2 * v
    · rw [if_pos hiv] at hX
      rw [if_pos ((nI_l1 (by omega) (by omega)).mpr (by omega))]
      exact hX
    · rw [if_neg hiv] at hX
      rw [if_neg (fun z => absurd ((nI_l1 (by omega) (by omega)).mp z) (by omega))]
      exact hX
  | succ n ih =>
    intro i b e hni heb hbv hi hX
    rw [dft] at hX
    rw [s40_7]
    simp only [s40_0, s40_1, s40_2, s40_3, s40_4, s40_5, s40_9, s40_10, s40_13, s40_16, s40_17, s40_20, s40_22, s40_23, s40_25, s40_28, s40_29, s40_30, s40_33, s40_36, s40_39, s40_40, s40_43, s40_45, s40_46, s40_48, s40_51, s40_52, s40_53, s40_56, s40_59, s40_62, s40_64, s40_65, s40_68, s40_71, s40_72, s40_75, s40_76, s40_77, s40_78, s40_81, s40_82, s40_85, s40_88, s40_90, is_O, opt_s, opt_n, cat_0, cat_i, cat_r, true_and, Nat.zero_le, Nat.reduceAdd, Nat.reduceLeDiff, al_I, as_I, rl_R, ln_I, ln_R, nI_add, pk_mul, g_set, set_set, not_false_eq_true, gf0_0, gf0_1, gf0_2, gf1_0, gf1_1, gf1_2, gf1_3, gf1_4, gf1_5, gf1_6, gf1_7, gf1_8, gf1_9, gf1_10, gf1_11, gf2_0, gf2_1, gf2_2, gf3_0, gf3_1, gf4_0, gf4_1, gf4_2, gf5_0, gf5_1, gf5_2, gf5_3, gf6_0, gf6_1, gf6_2, gf6_3, gf6_4, gf6_5, gf6_6, gf7_0, gf7_1, gf7_2, gf7_3, gf7_4, gf7_5, pf0_0, pf0_1, pf0_2, pf1_0, pf1_1, pf1_2, pf1_3, pf1_4, pf1_5, pf1_6, pf1_7, pf1_8, pf1_9, pf1_10, pf1_11, pf2_0, pf2_1, pf2_2, pf3_0, pf3_1, pf4_0, pf4_1, pf4_2, pf5_0, pf5_1, pf5_2, pf5_3, pf6_0, pf6_1, pf6_2, pf6_3, pf6_4, pf6_5, pf6_6, pf7_0, pf7_1, pf7_2, pf7_3, pf7_4, pf7_5, hp, ha, xi_n (show i < 24 by omega) (show 24 < 2147483648 by decide)]
    rw [if_neg (fun z => absurd ((nI_l1 (by omega) (by omega)).mp z) (by omega))]
    by_cases hc1 : f i = nI 40
    · have hc41 : ¬ f i = nI 41 := fun z => by rw [hc1] at z; exact absurd z (by decide)
      rw [if_neg (fun z => z hc1)]
      by_cases hbv2 : b < v
      · rw [if_pos ⟨hc1, hbv2⟩] at hX
        rw [if_neg (fun z => absurd ((nI_l1 (by omega) (by omega)).mp z) (by omega))]
        exact ih (i + 1) (b + 1) e (by omega) (by omega) (by omega) (by omega) hX
      · rw [if_neg (fun z => hbv2 z.2), if_neg (fun z => hc41 z.1)] at hX
        rw [if_pos ((nI_l1 (by omega) (by omega)).mpr (by omega)), if_pos hc41]
        exact hX
    · rw [if_neg (fun z => hc1 z.1)] at hX
      rw [if_pos hc1]
      by_cases hc2 : f i = nI 41
      · rw [if_neg (fun z => z hc2)]
        by_cases hbe : e < b
        · rw [if_pos ⟨hc2, hbe⟩] at hX
          rw [if_neg (fun z => absurd ((nI_l1 (by omega) (by omega)).mp z) (by omega))]
          exact ih (i + 1) b (e + 1) (by omega) (by omega) (by omega) (by omega) hX
        · rw [if_neg (fun z => hbe z.2)] at hX
          rw [if_pos ((nI_l1 (by omega) (by omega)).mpr (by omega))]
          exact hX
      · rw [if_neg (fun z => hc2 z.1)] at hX
        rw [if_pos hc2]
        exact hX
theorem m_padDf (h1 : 1 ≤ v) (h2 : v ≤ 5) (hN : N ≤ 24) (hp : ex_g h pd = some (oPd pa N)) (ha : ex_g h pa = some (cI 24 f)) (hX : X (some (.int (dft f v N 0 0 0))) h) : ex_W 40 0 [.ref pd, .int (nI v), oU, oU, oU] [] h X := by
  rw [s40_0, s40_1, s40_2, s40_3, s40_4, s40_5]
  exact l_cdf h1 h2 hN hp ha N 0 0 0 (by omega) (by omega) (by omega) (by omega) hX
theorem l_cwf (h1 : 1 ≤ v) (h2 : v ≤ 5) (hN : N ≤ 24) (hp : ex_g h pd = some (oPd pa N)) (ha : ex_g h pa = some (cI 24 f)) : ∀ (n i : Nat), n + i = N → X (some (.int (wft f v n i))) h → ex_W 41 2 [.ref pd, .int (nI v), .int (nI i)] [] h X := by
  intro n
  induction n with
  | zero =>
    intro i hni hX
    rw [s41_2]
    simp only [s41_0, s41_1, s41_3, s41_4, s41_7, s41_10, s41_11, s41_14, s41_15, s41_16, s41_18, s41_19, s41_20, s41_21, s41_22, s41_23, s41_26, s41_29, s41_30, s41_31, s41_34, s41_37, s41_39, is_O, opt_s, opt_n, cat_0, cat_i, cat_r, true_and, Nat.zero_le, Nat.reduceAdd, Nat.reduceLeDiff, al_I, as_I, rl_R, ln_I, ln_R, nI_add, pk_mul, g_set, set_set, not_false_eq_true, gf0_0, gf0_1, gf0_2, gf1_0, gf1_1, gf1_2, gf1_3, gf1_4, gf1_5, gf1_6, gf1_7, gf1_8, gf1_9, gf1_10, gf1_11, gf2_0, gf2_1, gf2_2, gf3_0, gf3_1, gf4_0, gf4_1, gf4_2, gf5_0, gf5_1, gf5_2, gf5_3, gf6_0, gf6_1, gf6_2, gf6_3, gf6_4, gf6_5, gf6_6, gf7_0, gf7_1, gf7_2, gf7_3, gf7_4, gf7_5, pf0_0, pf0_1, pf0_2, pf1_0, pf1_1, pf1_2, pf1_3, pf1_4, pf1_5, pf1_6, pf1_7, pf1_8, pf1_9, pf1_10, pf1_11, pf2_0, pf2_1, pf2_2, pf3_0, pf3_1, pf4_0, pf4_1, pf4_2, pf5_0, pf5_1, pf5_2, pf5_3, pf6_0, pf6_1, pf6_2, pf6_3, pf6_4, pf6_5, pf6_6, pf7_0, pf7_1, pf7_2, pf7_3, pf7_4, pf7_5, hp]
    rw [if_pos ((nI_l1 (by omega) (by omega)).mpr (by omega))]
    exact hX
  | succ n ih =>
    intro i hni hX
    rw [wft] at hX
    rw [s41_2]
    simp only [s41_0, s41_1, s41_3, s41_4, s41_7, s41_10, s41_11, s41_14, s41_15, s41_16, s41_18, s41_19, s41_20, s41_21, s41_22, s41_23, s41_26, s41_29, s41_30, s41_31, s41_34, s41_37, s41_39, is_O, opt_s, opt_n, cat_0, cat_i, cat_r, true_and, Nat.zero_le, Nat.reduceAdd, Nat.reduceLeDiff, al_I, as_I, rl_R, ln_I, ln_R, nI_add, pk_mul, g_set, set_set, not_false_eq_true, gf0_0, gf0_1, gf0_2, gf1_0, gf1_1, gf1_2, gf1_3, gf1_4, gf1_5, gf1_6, gf1_7, gf1_8, gf1_9, gf1_10, gf1_11, gf2_0, gf2_1, gf2_2, gf3_0, gf3_1, gf4_0, gf4_1, gf4_2, gf5_0, gf5_1, gf5_2, gf5_3, gf6_0, gf6_1, gf6_2, gf6_3, gf6_4, gf6_5, gf6_6, gf7_0, gf7_1, gf7_2, gf7_3, gf7_4, gf7_5, pf0_0, pf0_1, pf0_2, pf1_0, pf1_1, pf1_2, pf1_3, pf1_4, pf1_5, pf1_6, pf1_7, pf1_8, pf1_9, pf1_10, pf1_11, pf2_0, pf2_1, pf2_2, pf3_0, pf3_1, pf4_0, pf4_1, pf4_2, pf5_0, pf5_1, pf5_2, pf5_3, pf6_0, pf6_1, pf6_2, pf6_3, pf6_4, pf6_5, pf6_6, pf7_0, pf7_1, pf7_2, pf7_3, pf7_4, pf7_5, hp, ha, xi_n (show i < 24 by omega) (show 24 < 2147483648 by decide), pk_sub h1, m_within]
    rw [if_neg (fun z => absurd ((nI_l1 (by omega) (by omega)).mp z) (by omega))]
    by_cases hc : nI 1 ≤ f i - nI 48 ∧ f i - nI 48 ≤ nI (v - 1)
    · rw [if_pos hc] at hX ⊢
      rw [if_pos (by decide)]
      exact ih (i + 1) (by omega) hX
    · rw [if_neg hc] at hX ⊢
      rw [if_neg (fun z => z rfl)]
      exact hX
theorem m_padWf (h1 : 1 ≤ v) (h2 : v ≤ 5) (hN : N ≤ 24) (hp : ex_g h pd = some (oPd pa N)) (ha : ex_g h pa = some (cI 24 f)) (hX : X (some (.int (wft f v N 0))) h) : ex_W 41 0 [.ref pd, .int (nI v), oU] [] h X := by
  rw [s41_0, s41_1]
  exact l_cwf h1 h2 hN hp ha N 0 (by omega) hX
theorem m_figure {i : Nat} (hi : i < 24) (hp : ex_g h pd = some (oPd pa N)) (ha : ex_g h pa = some (cI 24 f)) : ex_W 42 0 [.ref pd, .int (nI i)] [] h X ↔ X (some (.int (f i - nI 48))) h := by
  simp only [s42_0, s42_1, s42_4, s42_5, s42_6, s42_8, s42_9, is_O, opt_s, opt_n, cat_0, cat_i, cat_r, true_and, Nat.zero_le, Nat.reduceAdd, Nat.reduceLeDiff, al_I, as_I, rl_R, ln_I, ln_R, nI_add, pk_mul, g_set, set_set, not_false_eq_true, gf0_0, gf0_1, gf0_2, gf1_0, gf1_1, gf1_2, gf1_3, gf1_4, gf1_5, gf1_6, gf1_7, gf1_8, gf1_9, gf1_10, gf1_11, gf2_0, gf2_1, gf2_2, gf3_0, gf3_1, gf4_0, gf4_1, gf4_2, gf5_0, gf5_1, gf5_2, gf5_3, gf6_0, gf6_1, gf6_2, gf6_3, gf6_4, gf6_5, gf6_6, gf7_0, gf7_1, gf7_2, gf7_3, gf7_4, gf7_5, pf0_0, pf0_1, pf0_2, pf1_0, pf1_1, pf1_2, pf1_3, pf1_4, pf1_5, pf1_6, pf1_7, pf1_8, pf1_9, pf1_10, pf1_11, pf2_0, pf2_1, pf2_2, pf3_0, pf3_1, pf4_0, pf4_1, pf4_2, pf5_0, pf5_1, pf5_2, pf5_3, pf6_0, pf6_1, pf6_2, pf6_3, pf6_4, pf6_5, pf6_6, pf7_0, pf7_1, pf7_2, pf7_3, pf7_4, pf7_5, hp, ha, xi_n (show i < 24 by omega) (show 24 < 2147483648 by decide)]
theorem l_ccd (hN : N ≤ 24) (hp : ex_g h pd = some (oPd pa N)) (ha : ex_g h pa = some (cI 24 f)) : ∀ (n i acc : Nat), n + i = N → X (some (.int (nI (cdo f n i acc)))) h → ex_W 43 4 [.ref pd, .int (nI acc), .int (nI i)] [] h X := by
  intro n
  induction n with
  | zero =>
    intro i acc hni hX
    rw [s43_4]
    simp only [s43_0, s43_1, s43_2, s43_3, s43_5, s43_6, s43_9, s43_12, s43_13, s43_14, s43_15, s43_16, s43_19, s43_20, s43_21, s43_23, s43_26, s43_27, s43_30, s43_31, s43_32, s43_33, s43_36, s43_39, s43_40, is_O, opt_s, opt_n, cat_0, cat_i, cat_r, true_and, Nat.zero_le, Nat.reduceAdd, Nat.reduceLeDiff, al_I, as_I, rl_R, ln_I, ln_R, nI_add, pk_mul, g_set, set_set, not_false_eq_true, gf0_0, gf0_1, gf0_2, gf1_0, gf1_1, gf1_2, gf1_3, gf1_4, gf1_5, gf1_6, gf1_7, gf1_8, gf1_9, gf1_10, gf1_11, gf2_0, gf2_1, gf2_2, gf3_0, gf3_1, gf4_0, gf4_1, gf4_2, gf5_0, gf5_1, gf5_2, gf5_3, gf6_0, gf6_1, gf6_2, gf6_3, gf6_4, gf6_5, gf6_6, gf7_0, gf7_1, gf7_2, gf7_3, gf7_4, gf7_5, pf0_0, pf0_1, pf0_2, pf1_0, pf1_1, pf1_2, pf1_3, pf1_4, pf1_5, pf1_6, pf1_7, pf1_8, pf1_9, pf1_10, pf1_11, pf2_0, pf2_1, pf2_2, pf3_0, pf3_1, pf4_0, pf4_1, pf4_2, pf5_0, pf5_1, pf5_2, pf5_3, pf6_0, pf6_1, pf6_2, pf6_3, pf6_4, pf6_5, pf6_6, pf7_0, pf7_1, pf7_2, pf7_3, pf7_4, pf7_5, hp]
    rw [if_pos ((nI_l1 (by omega) (by omega)).mpr (by omega))]
    exact hX
  | succ n ih =>
    intro i acc hni hX
    rw [cdo] at hX
    rw [s43_4]
    simp only [s43_0, s43_1, s43_2, s43_3, s43_5, s43_6, s43_9, s43_12, s43_13, s43_14, s43_15, s43_16, s43_19, s43_20, s43_21, s43_23, s43_26, s43_27, s43_30, s43_31, s43_32, s43_33, s43_36, s43_39, s43_40, is_O, opt_s, opt_n, cat_0, cat_i, cat_r, true_and, Nat.zero_le, Nat.reduceAdd, Nat.reduceLeDiff, al_I, as_I, rl_R, ln_I, ln_R, nI_add, pk_mul, g_set, set_set, not_false_eq_true, gf0_0, gf0_1, gf0_2, gf1_0, gf1_1, gf1_2, gf1_3, gf1_4, gf1_5, gf1_6, gf1_7, gf1_8, gf1_9, gf1_10, gf1_11, gf2_0, gf2_1, gf2_2, gf3_0, gf3_1, gf4_0, gf4_1, gf4_2, gf5_0, gf5_1, gf5_2, gf5_3, gf6_0, gf6_1, gf6_2, gf6_3, gf6_4, gf6_5, gf6_6, gf7_0, gf7_1, gf7_2, gf7_3, gf7_4, gf7_5, pf0_0, pf0_1, pf0_2, pf1_0, pf1_1, pf1_2, pf1_3, pf1_4, pf1_5, pf1_6, pf1_7, pf1_8, pf1_9, pf1_10, pf1_11, pf2_0, pf2_1, pf2_2, pf3_0, pf3_1, pf4_0, pf4_1, pf4_2, pf5_0, pf5_1, pf5_2, pf5_3, pf6_0, pf6_1, pf6_2, pf6_3, pf6_4, pf6_5, pf6_6, pf7_0, pf7_1, pf7_2, pf7_3, pf7_4, pf7_5, hp, ha, xi_n (show i < 24 by omega) (show 24 < 2147483648 by decide)]
    rw [if_neg (fun z => absurd ((nI_l1 (by omega) (by omega)).mp z) (by omega))]
    by_cases h40 : f i = nI 40
    · rw [if_pos h40] at hX
      rw [if_neg (fun z => z h40)]
      exact ih (i + 1) _ (by omega) hX
    · rw [if_neg h40] at hX
      rw [if_pos h40]
      exact ih (i + 1) _ (by omega) hX
theorem m_padCode (hN : N ≤ 24) (hp : ex_g h pd = some (oPd pa N)) (ha : ex_g h pa = some (cI 24 f)) (hX : X (some (.int (nI (cdo f N 0 0)))) h) : ex_W 43 0 [.ref pd, oU, oU] [] h X := by
  rw [s43_0, s43_1, s43_2, s43_3]
  exact l_ccd hN hp ha N 0 0 (by omega) hX
end C12
