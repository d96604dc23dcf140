/-! THE CLASS: the table of a cell is cleared -/
theorem fdr_no {T : Nat → Nat → Nat} {col : Nat} : ∀ (m i : Nat), fdr T col m i = none → ∀ a, i ≤ a → a < i + m → T a col = 0 := by
  intro m
  induction m with
  | zero => intro i _ a h1 h2; omega
  | succ m ih =>
    intro i h a h1 h2
    rw [fdr] at h
    split at h
    · cases h
    · rename_i hc
      by_cases e : a = i
      · rw [e]; exact Decidable.not_not.mp hc
      · exact ih (i + 1) h a (by omega) (by omega)
section C24
variable {h H : ex_Hp} {X : Option Value → ex_Hp → Prop} {v r t p lo tb n nb lp dt rk col : Nat} {T T2 : Nat → Nat → Nat} {fp : Nat → Int32}
theorem l_fp (hn : n ≤ 5) (hcol : col < n) (ho : ex_g h tb = some (oTb tb dt rk n)) (hB : TB tb n T h) (hTl : ∀ a k, T a k < 1000) : ∀ (m i : Nat), m + i = n → X (some (.int (nI ((fdr T col m i).getD n)))) h → ex_W 51 5 [.ref tb, .int (nI col), .int (nI i)] [] h X := by
  intro m
  induction m with
  | zero =>
    intro i hm hX
    obtain rfl : i = n := by omega
    rw [s51_5]
    simp only [s51_0, s51_1, s51_4, s51_6, s51_7, s51_10, s51_13, s51_14, s51_17, s51_18, s51_19, s51_20, s51_21, s51_24, s51_27, s51_30, s51_31, is_O, opt_s, opt_n, cat_0, cat_i, cat_r, true_and, Nat.zero_le, Nat.reduceAdd, Nat.reduceLeDiff, al_I, as_I, rl_R, ln_I, ln_R, nI_add, pk_mul, g_set, set_set, not_false_eq_true, gf0_0, gf0_1, gf0_2, gf1_0, gf1_1, gf1_2, gf1_3, gf1_4, gf1_5, gf1_6, gf1_7, gf1_8, gf1_9, gf1_10, gf1_11, gf2_0, gf2_1, gf2_2, gf3_0, gf3_1, gf4_0, gf4_1, gf4_2, gf5_0, gf5_1, gf5_2, gf5_3, gf6_0, gf6_1, gf6_2, gf6_3, gf6_4, gf6_5, gf6_6, gf7_0, gf7_1, gf7_2, gf7_3, gf7_4, gf7_5, pf0_0, pf0_1, pf0_2, pf1_0, pf1_1, pf1_2, pf1_3, pf1_4, pf1_5, pf1_6, pf1_7, pf1_8, pf1_9, pf1_10, pf1_11, pf2_0, pf2_1, pf2_2, pf3_0, pf3_1, pf4_0, pf4_1, pf4_2, pf5_0, pf5_1, pf5_2, pf5_3, pf6_0, pf6_1, pf6_2, pf6_3, pf6_4, pf6_5, pf6_6, pf7_0, pf7_1, pf7_2, pf7_3, pf7_4, pf7_5, ho]
    rw [if_pos ((nI_l1 (by omega) (by omega)).mpr (by omega))]
    exact hX
  | succ m ih =>
    intro i hm hX
    have hi : i < n := by omega
    have hl := hTl i col
    obtain ⟨ρ, w, f, b1, b2, b3, b4, b5, b6, b7⟩ := hB.row hn hi
    rw [fdr] at hX
    rw [s51_5]
    simp only [s51_0, s51_1, s51_4, s51_6, s51_7, s51_10, s51_13, s51_14, s51_17, s51_18, s51_19, s51_20, s51_21, s51_24, s51_27, s51_30, s51_31, is_O, opt_s, opt_n, cat_0, cat_i, cat_r, true_and, Nat.zero_le, Nat.reduceAdd, Nat.reduceLeDiff, al_I, as_I, rl_R, ln_I, ln_R, nI_add, pk_mul, g_set, set_set, not_false_eq_true, gf0_0, gf0_1, gf0_2, gf1_0, gf1_1, gf1_2, gf1_3, gf1_4, gf1_5, gf1_6, gf1_7, gf1_8, gf1_9, gf1_10, gf1_11, gf2_0, gf2_1, gf2_2, gf3_0, gf3_1, gf4_0, gf4_1, gf4_2, gf5_0, gf5_1, gf5_2, gf5_3, gf6_0, gf6_1, gf6_2, gf6_3, gf6_4, gf6_5, gf6_6, gf7_0, gf7_1, gf7_2, gf7_3, gf7_4, gf7_5, pf0_0, pf0_1, pf0_2, pf1_0, pf1_1, pf1_2, pf1_3, pf1_4, pf1_5, pf1_6, pf1_7, pf1_8, pf1_9, pf1_10, pf1_11, pf2_0, pf2_1, pf2_2, pf3_0, pf3_1, pf4_0, pf4_1, pf4_2, pf5_0, pf5_1, pf5_2, pf5_3, pf6_0, pf6_1, pf6_2, pf6_3, pf6_4, pf6_5, pf6_6, pf7_0, pf7_1, pf7_2, pf7_3, pf7_4, pf7_5, ho, b1, xi_n (show i < 5 by omega) (show 5 < 2147483648 by decide), vr_s b2, b5, xi_n (show col < 5 by omega) (show 5 < 2147483648 by decide), b6 col hcol]
    rw [if_neg (fun z => absurd ((nI_l1 (by omega) (by omega)).mp z) (by omega))]
    by_cases hz : T i col ≠ 0
    · rw [if_pos hz] at hX
      rw [if_pos (fun z => absurd ((nI_e (by omega) (by omega)).mp z) (by omega))]
      exact hX
    · rw [if_neg hz] at hX
      rw [if_neg (fun z => z (by rw [Decidable.not_not.mp hz]))]
      exact ih (i + 1) (by omega) hX
theorem m_tSwap {i j : Nat} (hn : n ≤ 5) (hi : i < n) (hj : j < n) (ho : ex_g h tb = some (oTb tb dt rk n)) (hB : TB tb n T h) (hX : ∀ H, chT tb h H → ex_g H tb = some (oTb tb dt rk n) → TB tb n (swp T j i) H → X none H) : ex_W 52 0 [.ref tb, .int (nI i), .int (nI j), oU] [] h X := by
  obtain ⟨ρ, wi, wj, fi, fj, b1, b2, b3, b4, b5, b6, b7, b8⟩ := hB.swap hn hi hj
  simp only [s52_0, s52_1, s52_4, s52_5, s52_6, s52_7, s52_8, s52_11, s52_12, s52_13, s52_16, s52_17, s52_18, s52_19, s52_20, s52_23, s52_24, s52_25, s52_26, is_O, opt_s, opt_n, cat_0, cat_i, cat_r, true_and, Nat.zero_le, Nat.reduceAdd, Nat.reduceLeDiff, al_I, as_I, rl_R, ln_I, ln_R, nI_add, pk_mul, g_set, set_set, not_false_eq_true, gf0_0, gf0_1, gf0_2, gf1_0, gf1_1, gf1_2, gf1_3, gf1_4, gf1_5, gf1_6, gf1_7, gf1_8, gf1_9, gf1_10, gf1_11, gf2_0, gf2_1, gf2_2, gf3_0, gf3_1, gf4_0, gf4_1, gf4_2, gf5_0, gf5_1, gf5_2, gf5_3, gf6_0, gf6_1, gf6_2, gf6_3, gf6_4, gf6_5, gf6_6, gf7_0, gf7_1, gf7_2, gf7_3, gf7_4, gf7_5, pf0_0, pf0_1, pf0_2, pf1_0, pf1_1, pf1_2, pf1_3, pf1_4, pf1_5, pf1_6, pf1_7, pf1_8, pf1_9, pf1_10, pf1_11, pf2_0, pf2_1, pf2_2, pf3_0, pf3_1, pf4_0, pf4_1, pf4_2, pf5_0, pf5_1, pf5_2, pf5_3, pf6_0, pf6_1, pf6_2, pf6_3, pf6_4, pf6_5, pf6_6, pf7_0, pf7_1, pf7_2, pf7_3, pf7_4, pf7_5, ho, b1, xi_n (show i < 5 by omega) (show 5 < 2147483648 by decide), xi_n (show j < 5 by omega) (show 5 < 2147483648 by decide), vr_s b2, vr_s b3, b6, b7, rs_I, g_ne (show ¬ tb = tb + 1 by omega), g_ne (show ¬ wi = tb + 1 by omega)]
  exact hX _ (chT.rfl'.set ⟨by omega, by omega⟩) ((g_ne (by omega)).trans ho) b8
theorem l_cb52 {i sh w : Nat} (hn : n ≤ 5) (hp : 2 ≤ p) (hp2 : p ≤ 101) (hrk : rk < i) (hi : i < n) (hsh : sh < p) (hnb : ex_g h nb = some (oNum (nI p) (nI lo) lp)) (o1 : nb < tb ∨ tb + 7 ≤ nb) (hTl : ∀ a k, a < n → k < n → T a k < p) (hX : ∀ H T' l7, chT tb h H → ex_g H tb = some (oTb tb dt rk n) → TB tb n T' H → (∀ a k, a < n → k < n → T' a k = if a = i ∧ col ≤ k then (T a k + p - sh * T rk k % p) % p else T a k) → ex_W 53 113 [.ref tb, .ref nb, .int (nI col), .int (nI w), .int (nI i), .int (nI sh), .int (nI n), l7] [] H X) : ∀ (m j : Nat) (H : ex_Hp) (T' : Nat → Nat → Nat) (l7 : Value), m + j = n → col ≤ j → chT tb h H → ex_g H tb = some (oTb tb dt rk n) → TB tb n T' H → (∀ a k, a < n → k < n → T' a k = if a = i ∧ col ≤ k ∧ k < j then (T a k + p - sh * T rk k % p) % p else T a k) → ex_W 53 52 [.ref tb, .ref nb, .int (nI col), .int (nI w), .int (nI i), .int (nI sh), .int (nI j), l7] [] H X := by
  intro m
  induction m with
  | zero =>
    intro j H T' l7 hm hj hc ho hB hv
    obtain rfl : j = n := by omega
    rw [s53_52]
    simp only [s53_0, s53_1, s53_2, s53_5, s53_6, s53_9, s53_10, s53_11, s53_12, s53_15, s53_16, s53_17, s53_20, s53_21, s53_22, s53_24, s53_26, s53_27, s53_30, s53_33, s53_34, s53_35, s53_38, s53_40, s53_41, s53_42, s53_43, s53_44, s53_47, s53_49, s53_50, s53_54, s53_55, s53_58, s53_61, s53_62, s53_64, s53_65, s53_68, s53_69, s53_72, s53_73, s53_75, s53_76, s53_79, s53_81, s53_82, s53_85, s53_87, s53_88, s53_90, s53_91, s53_92, s53_95, s53_97, s53_98, s53_100, s53_101, s53_103, s53_106, s53_107, s53_110, s53_116, s53_119, is_O, opt_s, opt_n, cat_0, cat_i, cat_r, true_and, Nat.zero_le, Nat.reduceAdd, Nat.reduceLeDiff, al_I, as_I, rl_R, ln_I, ln_R, nI_add, pk_mul, g_set, set_set, not_false_eq_true, gf0_0, gf0_1, gf0_2, gf1_0, gf1_1, gf1_2, gf1_3, gf1_4, gf1_5, gf1_6, gf1_7, gf1_8, gf1_9, gf1_10, gf1_11, gf2_0, gf2_1, gf2_2, gf3_0, gf3_1, gf4_0, gf4_1, gf4_2, gf5_0, gf5_1, gf5_2, gf5_3, gf6_0, gf6_1, gf6_2, gf6_3, gf6_4, gf6_5, gf6_6, gf7_0, gf7_1, gf7_2, gf7_3, gf7_4, gf7_5, pf0_0, pf0_1, pf0_2, pf1_0, pf1_1, pf1_2, pf1_3, pf1_4, pf1_5, pf1_6, pf1_7, pf1_8, pf1_9, pf1_10, pf1_11, pf2_0, pf2_1, pf2_2, pf3_0, pf3_1, pf4_0, pf4_1, pf4_2, pf5_0, pf5_1, pf5_2, pf5_3, pf6_0, pf6_1, pf6_2, pf6_3, pf6_4, pf6_5, pf6_6, pf7_0, pf7_1, pf7_2, pf7_3, pf7_4, pf7_5, ho]
    rw [if_pos ((nI_l1 (by omega) (by omega)).mpr (by omega))]
    refine hX H T' _ hc ho hB (fun a k ha hk => (hv a k ha hk).trans ?_)
    by_cases e : a = i ∧ col ≤ k
    · rw [if_pos ⟨e.1, e.2, hk⟩, if_pos e]
    · rw [if_neg (fun z => e ⟨z.1, z.2.1⟩), if_neg e]
  | succ m ih =>
    intro j H T' l7 hm hj hc ho hB hv
    have hjn : j < n := by omega
    obtain ⟨ρ, w1, f1, b1, b2, b3, b4, b5, b6, b7⟩ := hB.row hn hi
    obtain ⟨ρ2, w2, f2, c1, c2, c3, c4, c5, c6, _⟩ := hB.row hn (show rk < n by omega)
    rw [b1] at c1
    cases c1
    have g5 : ex_g H nb = _ := (hc.2.2 _ o1).trans hnb
    have e1 : f1 j = nI (T i j) := by rw [b6 j hjn, hv i j hi hjn, if_neg (by omega)]
    have e2 : f2 j = nI (T rk j) := by rw [c6 j hjn, hv rk j (by omega) hjn, if_neg (by omega)]
    have l1 := hTl i j hi hjn
    have l2 := hTl rk j (by omega) hjn
    have l3 : sh * T rk j % p < p := Nat.mod_lt _ (by omega)
    rw [s53_52]
    simp only [s53_0, s53_1, s53_2, s53_5, s53_6, s53_9, s53_10, s53_11, s53_12, s53_15, s53_16, s53_17, s53_20, s53_21, s53_22, s53_24, s53_26, s53_27, s53_30, s53_33, s53_34, s53_35, s53_38, s53_40, s53_41, s53_42, s53_43, s53_44, s53_47, s53_49, s53_50, s53_54, s53_55, s53_58, s53_61, s53_62, s53_64, s53_65, s53_68, s53_69, s53_72, s53_73, s53_75, s53_76, s53_79, s53_81, s53_82, s53_85, s53_87, s53_88, s53_90, s53_91, s53_92, s53_95, s53_97, s53_98, s53_100, s53_101, s53_103, s53_106, s53_107, s53_110, s53_116, s53_119, is_O, opt_s, opt_n, cat_0, cat_i, cat_r, true_and, Nat.zero_le, Nat.reduceAdd, Nat.reduceLeDiff, al_I, as_I, rl_R, ln_I, ln_R, nI_add, pk_mul, g_set, set_set, not_false_eq_true, gf0_0, gf0_1, gf0_2, gf1_0, gf1_1, gf1_2, gf1_3, gf1_4, gf1_5, gf1_6, gf1_7, gf1_8, gf1_9, gf1_10, gf1_11, gf2_0, gf2_1, gf2_2, gf3_0, gf3_1, gf4_0, gf4_1, gf4_2, gf5_0, gf5_1, gf5_2, gf5_3, gf6_0, gf6_1, gf6_2, gf6_3, gf6_4, gf6_5, gf6_6, gf7_0, gf7_1, gf7_2, gf7_3, gf7_4, gf7_5, pf0_0, pf0_1, pf0_2, pf1_0, pf1_1, pf1_2, pf1_3, pf1_4, pf1_5, pf1_6, pf1_7, pf1_8, pf1_9, pf1_10, pf1_11, pf2_0, pf2_1, pf2_2, pf3_0, pf3_1, pf4_0, pf4_1, pf4_2, pf5_0, pf5_1, pf5_2, pf5_3, pf6_0, pf6_1, pf6_2, pf6_3, pf6_4, pf6_5, pf6_6, pf7_0, pf7_1, pf7_2, pf7_3, pf7_4, pf7_5, ho, b1, xi_n (show i < 5 by omega) (show 5 < 2147483648 by decide), xi_n (show rk < 5 by omega) (show 5 < 2147483648 by decide), xi_n (show j < 5 by omega) (show 5 < 2147483648 by decide), vr_s b2, vr_s c2, b5, c5, e1, e2, g5, m_mul g5, m_sub g5]
    rw [if_neg (fun z => absurd ((nI_l1 (by omega) (by omega)).mp z) (by omega))]
    have q1 := nF_mul hp hp2 hsh l2
    rw [pk_mul] at q1
    have q2 := nF_s (a := T i j) (b := sh * T rk j % p) hp (by omega) (by omega) (by omega)
    simp only [q1, q2]
    refine ih (j + 1) _ _ _ (by omega) (by omega) (hc.set ⟨by omega, by omega⟩) ((g_ne (by omega)).trans ho) (b7 j _ hjn) (fun a k ha hk => ?_)
    try dsimp only
    by_cases e : a = i ∧ k = j
    · obtain ⟨ea, ek⟩ := e
      rw [if_pos ⟨ea, ek⟩, if_pos ⟨ea, by omega, by omega⟩, ea, ek]
    · rw [if_neg e, hv a k ha hk]
      by_cases e5 : a = i ∧ col ≤ k ∧ k < j
      · rw [if_pos e5, if_pos ⟨e5.1, e5.2.1, by omega⟩]
      · rw [if_neg e5, if_neg (by omega)]
theorem l_cb24 {w : Nat} (hn : n ≤ 5) (hp : 2 ≤ p) (hp2 : p ≤ 101) (hrn : rk < n) (hcol : col < n) (hw : w < p) (hnb : ex_g h nb = some (oNum (nI p) (nI lo) lp)) (o1 : nb < tb ∨ tb + 7 ≤ nb) (hTl : ∀ a k, T a k < p) (hz : ∀ a, rk ≤ a → a < n → ∀ k, k < col → T a k = 0) (hX : ∀ H, chT tb h H → ex_g H tb = some (oTb tb dt rk n) → TB tb n (clrT p rk w col T) H → X none H) : ∀ (m i : Nat) (H : ex_Hp) (T' : Nat → Nat → Nat) (l5 l6 l7 : Value), m + i = n → rk < i → chT tb h H → ex_g H tb = some (oTb tb dt rk n) → TB tb n T' H → (∀ a k, a < n → k < n → T' a k = if rk < a ∧ a < i then nwT p rk w col T a k else T a k) → ex_W 53 24 [.ref tb, .ref nb, .int (nI col), .int (nI w), .int (nI i), l5, l6, l7] [] H X := by
  intro m
  induction m with
  | zero =>
    intro i H T' l5 l6 l7 hm hi hc ho hB hv
    obtain rfl : i = n := by omega
    rw [s53_24]
    simp only [s53_0, s53_1, s53_2, s53_5, s53_6, s53_9, s53_10, s53_11, s53_12, s53_15, s53_16, s53_17, s53_20, s53_21, s53_22, s53_26, s53_27, s53_30, s53_33, s53_34, s53_35, s53_38, s53_40, s53_41, s53_42, s53_43, s53_44, s53_47, s53_49, s53_50, s53_54, s53_55, s53_58, s53_61, s53_62, s53_64, s53_65, s53_68, s53_69, s53_72, s53_73, s53_75, s53_76, s53_79, s53_81, s53_82, s53_85, s53_87, s53_88, s53_90, s53_91, s53_92, s53_95, s53_97, s53_98, s53_100, s53_101, s53_103, s53_106, s53_107, s53_110, s53_113, s53_116, s53_119, is_O, opt_s, opt_n, cat_0, cat_i, cat_r, true_and, Nat.zero_le, Nat.reduceAdd, Nat.reduceLeDiff, al_I, as_I, rl_R, ln_I, ln_R, nI_add, pk_mul, g_set, set_set, not_false_eq_true, gf0_0, gf0_1, gf0_2, gf1_0, gf1_1, gf1_2, gf1_3, gf1_4, gf1_5, gf1_6, gf1_7, gf1_8, gf1_9, gf1_10, gf1_11, gf2_0, gf2_1, gf2_2, gf3_0, gf3_1, gf4_0, gf4_1, gf4_2, gf5_0, gf5_1, gf5_2, gf5_3, gf6_0, gf6_1, gf6_2, gf6_3, gf6_4, gf6_5, gf6_6, gf7_0, gf7_1, gf7_2, gf7_3, gf7_4, gf7_5, pf0_0, pf0_1, pf0_2, pf1_0, pf1_1, pf1_2, pf1_3, pf1_4, pf1_5, pf1_6, pf1_7, pf1_8, pf1_9, pf1_10, pf1_11, pf2_0, pf2_1, pf2_2, pf3_0, pf3_1, pf4_0, pf4_1, pf4_2, pf5_0, pf5_1, pf5_2, pf5_3, pf6_0, pf6_1, pf6_2, pf6_3, pf6_4, pf6_5, pf6_6, pf7_0, pf7_1, pf7_2, pf7_3, pf7_4, pf7_5, ho]
    rw [if_pos ((nI_l1 (by omega) (by omega)).mpr (by omega))]
    refine hX H hc ho (hB.ext (fun a ha k hk => ?_))
    rw [hv a k ha hk]
    unfold clrT
    by_cases e : rk < a
    · rw [if_pos e, if_pos ⟨e, ha⟩]
    · rw [if_neg e, if_neg (fun z => e z.1)]
  | succ m ih =>
    intro i H T' l5 l6 l7 hm hi hc ho hB hv
    have hin : i < n := by omega
    obtain ⟨ρ, w1, f1, b1, b2, b3, b4, b5, b6, b7⟩ := hB.row hn hin
    have g5 : ex_g H nb = _ := (hc.2.2 _ o1).trans hnb
    have e1 : f1 col = nI (T i col) := by rw [b6 col hcol, hv i col hin hcol, if_neg (by omega)]
    have q1 := nF_mul hp hp2 (hTl i col) hw
    rw [pk_mul] at q1
    have l3 : T i col * w % p < p := Nat.mod_lt _ (by omega)
    have hl : ∀ a k, a < n → k < n → T' a k < p := fun a k ha hk => by
      rw [hv a k ha hk]
      split
      · exact Nat.mod_lt _ (by omega)
      · exact hTl a k
    rw [s53_24]
    simp only [s53_0, s53_1, s53_2, s53_5, s53_6, s53_9, s53_10, s53_11, s53_12, s53_15, s53_16, s53_17, s53_20, s53_21, s53_22, s53_26, s53_27, s53_30, s53_33, s53_34, s53_35, s53_38, s53_40, s53_41, s53_42, s53_43, s53_44, s53_47, s53_49, s53_50, s53_54, s53_55, s53_58, s53_61, s53_62, s53_64, s53_65, s53_68, s53_69, s53_72, s53_73, s53_75, s53_76, s53_79, s53_81, s53_82, s53_85, s53_87, s53_88, s53_90, s53_91, s53_92, s53_95, s53_97, s53_98, s53_100, s53_101, s53_103, s53_106, s53_107, s53_110, s53_113, s53_116, s53_119, is_O, opt_s, opt_n, cat_0, cat_i, cat_r, true_and, Nat.zero_le, Nat.reduceAdd, Nat.reduceLeDiff, al_I, as_I, rl_R, ln_I, ln_R, nI_add, pk_mul, g_set, set_set, not_false_eq_true, gf0_0, gf0_1, gf0_2, gf1_0, gf1_1, gf1_2, gf1_3, gf1_4, gf1_5, gf1_6, gf1_7, gf1_8, gf1_9, gf1_10, gf1_11, gf2_0, gf2_1, gf2_2, gf3_0, gf3_1, gf4_0, gf4_1, gf4_2, gf5_0, gf5_1, gf5_2, gf5_3, gf6_0, gf6_1, gf6_2, gf6_3, gf6_4, gf6_5, gf6_6, gf7_0, gf7_1, gf7_2, gf7_3, gf7_4, gf7_5, pf0_0, pf0_1, pf0_2, pf1_0, pf1_1, pf1_2, pf1_3, pf1_4, pf1_5, pf1_6, pf1_7, pf1_8, pf1_9, pf1_10, pf1_11, pf2_0, pf2_1, pf2_2, pf3_0, pf3_1, pf4_0, pf4_1, pf4_2, pf5_0, pf5_1, pf5_2, pf5_3, pf6_0, pf6_1, pf6_2, pf6_3, pf6_4, pf6_5, pf6_6, pf7_0, pf7_1, pf7_2, pf7_3, pf7_4, pf7_5, ho, b1, xi_n (show i < 5 by omega) (show 5 < 2147483648 by decide), xi_n (show col < 5 by omega) (show 5 < 2147483648 by decide), vr_s b2, b5, e1, g5, m_mul g5, q1]
    rw [if_neg (fun z => absurd ((nI_l1 (by omega) (by omega)).mp z) (by omega))]
    refine l_cb52 (h := h) (T := T') hn hp hp2 hi hin l3 hnb o1 hl (fun K T2 l7 kc ko kB kv => ?_) (n - col) col H T' _ (by omega) (by omega) hc ho hB (fun a k ha hk => (if_neg (by omega)).symm)
    simp only [s53_113, s53_116, nI_add]
    refine ih (i + 1) K T2 _ _ _ (by omega) (by omega) kc ko kB (fun a k ha hk => ?_)
    rw [kv a k ha hk]
    by_cases e : a = i
    · have e3 : T' a k = T a k := by rw [hv a k ha hk, if_neg (by omega)]
      have e4 : T' rk k = T rk k := by rw [hv rk k hrn hk, if_neg (by omega)]
      rw [if_pos (show rk < a ∧ a < i + 1 by omega), e3, e4]
      unfold nwT
      by_cases e5 : col ≤ k
      · rw [if_pos ⟨e, e5⟩, e]
      · rw [if_neg (fun z => e5 z.2), hz a (by omega) ha k (by omega), hz rk (by omega) hrn k (by omega), Nat.mul_zero, Nat.zero_mod, Nat.zero_add, Nat.sub_zero, Nat.mod_self]
    · rw [if_neg (fun z => e z.1), hv a k ha hk]
      by_cases e5 : rk < a ∧ a < i
      · rw [if_pos e5, if_pos ⟨e5.1, by omega⟩]
      · rw [if_neg e5, if_neg (by omega)]
theorem m_tClear (hn : n ≤ 5) (hp : 2 ≤ p) (hp2 : p ≤ 101) (hpr : prT p = true) (hrn : rk < n) (hcol : col < n) (hnb : ex_g h nb = some (oNum (nI p) (nI lo) lp)) (o1 : nb < tb ∨ tb + 7 ≤ nb) (hTl : ∀ a k, T a k < p) (hz : ∀ a, rk ≤ a → a < n → ∀ k, k < col → T a k = 0) (ho : ex_g h tb = some (oTb tb dt rk n)) (hB : TB tb n T h) (hne : T rk col ≠ 0) (hX : ∀ H, chT tb h H → ex_g H tb = some (oTb tb dt rk n) → TB tb n (clrT p rk (iv p (T rk col)) col T) H → X none H) : ex_W 53 0 [.ref tb, .ref nb, .int (nI col), oU, oU, oU, oU, oU] [] h X := by
  have hiv := iv_ok hp hp2 hpr (hTl rk col) hne
  obtain ⟨ρ, w1, f1, b1, b2, b3, b4, b5, b6, b7⟩ := hB.row hn hrn
  simp only [s53_0, s53_1, s53_2, s53_5, s53_6, s53_9, s53_10, s53_11, s53_12, s53_15, s53_16, s53_17, s53_20, s53_21, s53_22, s53_26, s53_27, s53_30, s53_33, s53_34, s53_35, s53_38, s53_40, s53_41, s53_42, s53_43, s53_44, s53_47, s53_49, s53_50, s53_52, s53_54, s53_55, s53_58, s53_61, s53_62, s53_64, s53_65, s53_68, s53_69, s53_72, s53_73, s53_75, s53_76, s53_79, s53_81, s53_82, s53_85, s53_87, s53_88, s53_90, s53_91, s53_92, s53_95, s53_97, s53_98, s53_100, s53_101, s53_103, s53_106, s53_107, s53_110, s53_113, s53_116, s53_119, is_O, opt_s, opt_n, cat_0, cat_i, cat_r, true_and, Nat.zero_le, Nat.reduceAdd, Nat.reduceLeDiff, al_I, as_I, rl_R, ln_I, ln_R, nI_add, pk_mul, g_set, set_set, not_false_eq_true, gf0_0, gf0_1, gf0_2, gf1_0, gf1_1, gf1_2, gf1_3, gf1_4, gf1_5, gf1_6, gf1_7, gf1_8, gf1_9, gf1_10, gf1_11, gf2_0, gf2_1, gf2_2, gf3_0, gf3_1, gf4_0, gf4_1, gf4_2, gf5_0, gf5_1, gf5_2, gf5_3, gf6_0, gf6_1, gf6_2, gf6_3, gf6_4, gf6_5, gf6_6, gf7_0, gf7_1, gf7_2, gf7_3, gf7_4, gf7_5, pf0_0, pf0_1, pf0_2, pf1_0, pf1_1, pf1_2, pf1_3, pf1_4, pf1_5, pf1_6, pf1_7, pf1_8, pf1_9, pf1_10, pf1_11, pf2_0, pf2_1, pf2_2, pf3_0, pf3_1, pf4_0, pf4_1, pf4_2, pf5_0, pf5_1, pf5_2, pf5_3, pf6_0, pf6_1, pf6_2, pf6_3, pf6_4, pf6_5, pf6_6, pf7_0, pf7_1, pf7_2, pf7_3, pf7_4, pf7_5, ho, b1, xi_n (show rk < 5 by omega) (show 5 < 2147483648 by decide), xi_n (show col < 5 by omega) (show 5 < 2147483648 by decide), vr_s b2, b5, b6 col hcol, hnb]
  refine m_inverse hp hp2 (hTl rk col) hnb ?_
  simp only [s53_0, s53_1, s53_2, s53_5, s53_6, s53_9, s53_10, s53_11, s53_12, s53_15, s53_16, s53_17, s53_20, s53_21, s53_22, s53_26, s53_27, s53_30, s53_33, s53_34, s53_35, s53_38, s53_40, s53_41, s53_42, s53_43, s53_44, s53_47, s53_49, s53_50, s53_52, s53_54, s53_55, s53_58, s53_61, s53_62, s53_64, s53_65, s53_68, s53_69, s53_72, s53_73, s53_75, s53_76, s53_79, s53_81, s53_82, s53_85, s53_87, s53_88, s53_90, s53_91, s53_92, s53_95, s53_97, s53_98, s53_100, s53_101, s53_103, s53_106, s53_107, s53_110, s53_113, s53_116, s53_119, is_O, opt_s, opt_n, cat_0, cat_i, cat_r, true_and, Nat.zero_le, Nat.reduceAdd, Nat.reduceLeDiff, al_I, as_I, rl_R, ln_I, ln_R, nI_add, pk_mul, g_set, set_set, not_false_eq_true, gf0_0, gf0_1, gf0_2, gf1_0, gf1_1, gf1_2, gf1_3, gf1_4, gf1_5, gf1_6, gf1_7, gf1_8, gf1_9, gf1_10, gf1_11, gf2_0, gf2_1, gf2_2, gf3_0, gf3_1, gf4_0, gf4_1, gf4_2, gf5_0, gf5_1, gf5_2, gf5_3, gf6_0, gf6_1, gf6_2, gf6_3, gf6_4, gf6_5, gf6_6, gf7_0, gf7_1, gf7_2, gf7_3, gf7_4, gf7_5, pf0_0, pf0_1, pf0_2, pf1_0, pf1_1, pf1_2, pf1_3, pf1_4, pf1_5, pf1_6, pf1_7, pf1_8, pf1_9, pf1_10, pf1_11, pf2_0, pf2_1, pf2_2, pf3_0, pf3_1, pf4_0, pf4_1, pf4_2, pf5_0, pf5_1, pf5_2, pf5_3, pf6_0, pf6_1, pf6_2, pf6_3, pf6_4, pf6_5, pf6_6, pf7_0, pf7_1, pf7_2, pf7_3, pf7_4, pf7_5, ho]
  exact l_cb24 hn hp hp2 hrn hcol hiv.2.1 hnb o1 hTl hz hX (n - (rk + 1)) (rk + 1) h T _ _ _ (by omega) (by omega) chT.rfl' ho hB (fun a k ha hk => (if_neg (by omega)).symm)
end C24
