/-! THE CLASS: the table of a cell is filled -/
section C23
variable {h H : ex_Hp} {X : Option Value → ex_Hp → Prop} {v r t p lo tb n nb lp d0 r0 : Nat} {T T2 : Nat → Nat → Nat} {fp : Nat → Int32}
theorem l_tf25 {i : Nat} (h1 : 1 ≤ v) (h2 : v ≤ 5) (hr : okR v r) (hi : i < tHn v r) (hnb : ex_g h nb = some (oNum (nI p) (nI lo) lp)) (hlp : ex_g h lp = some (cI 6 fp)) (hfp : ∀ j, j < 6 → fp j = nI (lo ^ j % p)) (hT : TX v r t h) (o1 : nb < tb ∨ tb + 7 ≤ nb) (o2 : lp < tb ∨ tb + 7 ≤ lp) (o3 : t + 6 + tHn v r ≤ tb ∨ tb + 7 ≤ t) (hX : ∀ H T', chT tb h H → ex_g H tb = some (oTb tb d0 r0 (tHn v r)) → TB tb (tHn v r) T' H → (∀ a k, a < tHn v r → k < tHn v r → T' a k = if a = i then fN v p lo r a k else T a k) → ex_W 49 66 [.ref tb, .ref nb, .ref t, .int (nI i), .int (nI (tHn v r))] [] H X) : ∀ (m j : Nat) (H : ex_Hp) (T' : Nat → Nat → Nat), m + j = tHn v r → chT tb h H → ex_g H tb = some (oTb tb d0 r0 (tHn v r)) → TB tb (tHn v r) T' H → (∀ a k, a < tHn v r → k < tHn v r → T' a k = if a = i ∧ k < j then fN v p lo r a k else T a k) → ex_W 49 25 [.ref tb, .ref nb, .ref t, .int (nI i), .int (nI j)] [] H X := by
  obtain ⟨_, _, k2, k3⟩ := tHf0 h1 h2 hr
  intro m
  induction m with
  | zero =>
    intro j H T' hm hc ho hB hv
    obtain rfl : j = tHn v r := by omega
    rw [s49_25]
    simp only [s49_0, s49_1, s49_2, s49_5, s49_6, s49_9, s49_12, s49_13, s49_14, s49_15, s49_16, s49_19, s49_22, s49_23, s49_27, s49_28, s49_31, s49_34, s49_35, s49_38, s49_39, s49_40, s49_42, s49_43, s49_44, s49_47, s49_48, s49_49, s49_50, s49_53, s49_55, s49_56, s49_59, s49_60, s49_63, s49_69, s49_72, is_O, opt_s, opt_n, cat_0, cat_i, cat_r, true_and, Nat.zero_le, Nat.reduceAdd, Nat.reduceLeDiff, al_I, as_I, rl_R, ln_I, ln_R, nI_add, pk_mul, g_set, set_set, not_false_eq_true, gf0_0, gf0_1, gf0_2, gf1_0, gf1_1, gf1_2, gf1_3, gf1_4, gf1_5, gf1_6, gf1_7, gf1_8, gf1_9, gf1_10, gf1_11, gf2_0, gf2_1, gf2_2, gf3_0, gf3_1, gf4_0, gf4_1, gf4_2, gf5_0, gf5_1, gf5_2, gf5_3, gf6_0, gf6_1, gf6_2, gf6_3, gf6_4, gf6_5, gf6_6, gf7_0, gf7_1, gf7_2, gf7_3, gf7_4, gf7_5, pf0_0, pf0_1, pf0_2, pf1_0, pf1_1, pf1_2, pf1_3, pf1_4, pf1_5, pf1_6, pf1_7, pf1_8, pf1_9, pf1_10, pf1_11, pf2_0, pf2_1, pf2_2, pf3_0, pf3_1, pf4_0, pf4_1, pf4_2, pf5_0, pf5_1, pf5_2, pf5_3, pf6_0, pf6_1, pf6_2, pf6_3, pf6_4, pf6_5, pf6_6, pf7_0, pf7_1, pf7_2, pf7_3, pf7_4, pf7_5, ho]
    rw [if_pos ((nI_l1 (by omega) (by omega)).mpr (by omega))]
    refine hX H T' hc ho hB (fun a k ha hk => (hv a k ha hk).trans ?_)
    by_cases e : a = i
    · rw [if_pos ⟨e, hk⟩, if_pos e]
    · rw [if_neg (fun z => e z.1), if_neg e]
  | succ m ih =>
    intro j H T' hm hc ho hB hv
    have hj : j < tHn v r := by omega
    obtain ⟨c2, c3, c4, c5, c6, ρt, q1, q2, q3⟩ := hT.hv h1 h2 hr
    have g1 : ex_g H t = _ := (hc.2.2 t (by omega)).trans q1
    have g2 : ex_g H (t + 5) = _ := (hc.2.2 _ (by omega)).trans q2
    obtain ⟨ri, fi, e1, e2⟩ := q3 i hi
    obtain ⟨rj, fj, e3, e4⟩ := q3 j hj
    have g3 : ex_g H (t + 6 + i) = _ := (hc.2.2 _ (by omega)).trans e1
    have g4 : ex_g H (t + 6 + j) = _ := (hc.2.2 _ (by omega)).trans e3
    have g5 : ex_g H nb = _ := (hc.2.2 _ o1).trans hnb
    have g6 : ex_g H lp = _ := (hc.2.2 _ o2).trans hlp
    obtain ⟨ρ, w, f, b1, b2, b3, b4, b5, b6, b7⟩ := hB.row k3 hi
    rw [s49_25]
    simp only [s49_0, s49_1, s49_2, s49_5, s49_6, s49_9, s49_12, s49_13, s49_14, s49_15, s49_16, s49_19, s49_22, s49_23, s49_27, s49_28, s49_31, s49_34, s49_35, s49_38, s49_39, s49_40, s49_42, s49_43, s49_44, s49_47, s49_48, s49_49, s49_50, s49_53, s49_55, s49_56, s49_59, s49_60, s49_63, s49_69, s49_72, is_O, opt_s, opt_n, cat_0, cat_i, cat_r, true_and, Nat.zero_le, Nat.reduceAdd, Nat.reduceLeDiff, al_I, as_I, rl_R, ln_I, ln_R, nI_add, pk_mul, g_set, set_set, not_false_eq_true, gf0_0, gf0_1, gf0_2, gf1_0, gf1_1, gf1_2, gf1_3, gf1_4, gf1_5, gf1_6, gf1_7, gf1_8, gf1_9, gf1_10, gf1_11, gf2_0, gf2_1, gf2_2, gf3_0, gf3_1, gf4_0, gf4_1, gf4_2, gf5_0, gf5_1, gf5_2, gf5_3, gf6_0, gf6_1, gf6_2, gf6_3, gf6_4, gf6_5, gf6_6, gf7_0, gf7_1, gf7_2, gf7_3, gf7_4, gf7_5, pf0_0, pf0_1, pf0_2, pf1_0, pf1_1, pf1_2, pf1_3, pf1_4, pf1_5, pf1_6, pf1_7, pf1_8, pf1_9, pf1_10, pf1_11, pf2_0, pf2_1, pf2_2, pf3_0, pf3_1, pf4_0, pf4_1, pf4_2, pf5_0, pf5_1, pf5_2, pf5_3, pf6_0, pf6_1, pf6_2, pf6_3, pf6_4, pf6_5, pf6_6, pf7_0, pf7_1, pf7_2, pf7_3, pf7_4, pf7_5, ho, b1, xi_n (show i < 5 by omega) (show 5 < 2147483648 by decide), vr_s b2, g1, g2, xi_n hi (show tHn v r < 2147483648 by omega), xi_n hj (show tHn v r < 2147483648 by omega), vr_s ri, vr_s rj]
    rw [if_neg (fun z => absurd ((nI_l1 (by omega) (by omega)).mp z) (by omega))]
    refine m_form h1 h2 hr hi hj g3 g4 e2 e4 g5 g6 hfp ?_
    simp only [s49_0, s49_1, s49_2, s49_5, s49_6, s49_9, s49_12, s49_13, s49_14, s49_15, s49_16, s49_19, s49_22, s49_23, s49_27, s49_28, s49_31, s49_34, s49_35, s49_38, s49_39, s49_40, s49_42, s49_43, s49_44, s49_47, s49_48, s49_49, s49_50, s49_53, s49_55, s49_56, s49_59, s49_60, s49_63, s49_69, s49_72, is_O, opt_s, opt_n, cat_0, cat_i, cat_r, true_and, Nat.zero_le, Nat.reduceAdd, Nat.reduceLeDiff, al_I, as_I, rl_R, ln_I, ln_R, nI_add, pk_mul, g_set, set_set, not_false_eq_true, gf0_0, gf0_1, gf0_2, gf1_0, gf1_1, gf1_2, gf1_3, gf1_4, gf1_5, gf1_6, gf1_7, gf1_8, gf1_9, gf1_10, gf1_11, gf2_0, gf2_1, gf2_2, gf3_0, gf3_1, gf4_0, gf4_1, gf4_2, gf5_0, gf5_1, gf5_2, gf5_3, gf6_0, gf6_1, gf6_2, gf6_3, gf6_4, gf6_5, gf6_6, gf7_0, gf7_1, gf7_2, gf7_3, gf7_4, gf7_5, pf0_0, pf0_1, pf0_2, pf1_0, pf1_1, pf1_2, pf1_3, pf1_4, pf1_5, pf1_6, pf1_7, pf1_8, pf1_9, pf1_10, pf1_11, pf2_0, pf2_1, pf2_2, pf3_0, pf3_1, pf4_0, pf4_1, pf4_2, pf5_0, pf5_1, pf5_2, pf5_3, pf6_0, pf6_1, pf6_2, pf6_3, pf6_4, pf6_5, pf6_6, pf7_0, pf7_1, pf7_2, pf7_3, pf7_4, pf7_5, b5, xi_n (show j < 5 by omega) (show 5 < 2147483648 by decide)]
    refine ih (j + 1) _ _ (by omega) (hc.set ⟨by omega, by omega⟩) ((g_ne (by omega)).trans ho) (b7 j (fN v p lo r i j) hj) (fun a k ha hk => ?_)
    try dsimp only
    by_cases e : a = i ∧ k = j
    · obtain ⟨ea, ek⟩ := e
      rw [if_pos ⟨ea, ek⟩, if_pos ⟨ea, by omega⟩, ea, ek]
    · rw [if_neg e, hv a k ha hk]
      by_cases e5 : a = i ∧ k < j
      · rw [if_pos e5, if_pos ⟨e5.1, by omega⟩]
      · rw [if_neg e5, if_neg (by omega)]
theorem l_tf14 (h1 : 1 ≤ v) (h2 : v ≤ 5) (hr : okR v r) (hnb : ex_g h nb = some (oNum (nI p) (nI lo) lp)) (hlp : ex_g h lp = some (cI 6 fp)) (hfp : ∀ j, j < 6 → fp j = nI (lo ^ j % p)) (hT : TX v r t h) (o1 : nb < tb ∨ tb + 7 ≤ nb) (o2 : lp < tb ∨ tb + 7 ≤ lp) (o3 : t + 6 + tHn v r ≤ tb ∨ tb + 7 ≤ t) (hX : ∀ H, chT tb h H → ex_g H tb = some (oTb tb d0 r0 (tHn v r)) → TB tb (tHn v r) (fN v p lo r) H → X none H) : ∀ (m i : Nat) (H : ex_Hp) (T' : Nat → Nat → Nat) (l4 : Value), m + i = tHn v r → chT tb h H → ex_g H tb = some (oTb tb d0 r0 (tHn v r)) → TB tb (tHn v r) T' H → (∀ a k, a < tHn v r → k < tHn v r → a < i → T' a k = fN v p lo r a k) → ex_W 49 14 [.ref tb, .ref nb, .ref t, .int (nI i), l4] [] H X := by
  obtain ⟨_, _, k2, k3⟩ := tHf0 h1 h2 hr
  intro m
  induction m with
  | zero =>
    intro i H T' l4 hm hc ho hB hv
    obtain rfl : i = tHn v r := by omega
    rw [s49_14]
    simp only [s49_0, s49_1, s49_2, s49_5, s49_6, s49_9, s49_12, s49_13, s49_15, s49_16, s49_19, s49_22, s49_23, s49_27, s49_28, s49_31, s49_34, s49_35, s49_38, s49_39, s49_40, s49_42, s49_43, s49_44, s49_47, s49_48, s49_49, s49_50, s49_53, s49_55, s49_56, s49_59, s49_60, s49_63, s49_66, s49_69, s49_72, is_O, opt_s, opt_n, cat_0, cat_i, cat_r, true_and, Nat.zero_le, Nat.reduceAdd, Nat.reduceLeDiff, al_I, as_I, rl_R, ln_I, ln_R, nI_add, pk_mul, g_set, set_set, not_false_eq_true, gf0_0, gf0_1, gf0_2, gf1_0, gf1_1, gf1_2, gf1_3, gf1_4, gf1_5, gf1_6, gf1_7, gf1_8, gf1_9, gf1_10, gf1_11, gf2_0, gf2_1, gf2_2, gf3_0, gf3_1, gf4_0, gf4_1, gf4_2, gf5_0, gf5_1, gf5_2, gf5_3, gf6_0, gf6_1, gf6_2, gf6_3, gf6_4, gf6_5, gf6_6, gf7_0, gf7_1, gf7_2, gf7_3, gf7_4, gf7_5, pf0_0, pf0_1, pf0_2, pf1_0, pf1_1, pf1_2, pf1_3, pf1_4, pf1_5, pf1_6, pf1_7, pf1_8, pf1_9, pf1_10, pf1_11, pf2_0, pf2_1, pf2_2, pf3_0, pf3_1, pf4_0, pf4_1, pf4_2, pf5_0, pf5_1, pf5_2, pf5_3, pf6_0, pf6_1, pf6_2, pf6_3, pf6_4, pf6_5, pf6_6, pf7_0, pf7_1, pf7_2, pf7_3, pf7_4, pf7_5, ho]
    rw [if_pos ((nI_l1 (by omega) (by omega)).mpr (by omega))]
    exact hX H hc ho (hB.ext (fun a ha k hk => (hv a k ha hk ha).symm))
  | succ m ih =>
    intro i H T' l4 hm hc ho hB hv
    rw [s49_14]
    simp only [s49_0, s49_1, s49_2, s49_5, s49_6, s49_9, s49_12, s49_13, s49_15, s49_16, s49_19, s49_22, s49_23, s49_27, s49_28, s49_31, s49_34, s49_35, s49_38, s49_39, s49_40, s49_42, s49_43, s49_44, s49_47, s49_48, s49_49, s49_50, s49_53, s49_55, s49_56, s49_59, s49_60, s49_63, s49_66, s49_69, s49_72, is_O, opt_s, opt_n, cat_0, cat_i, cat_r, true_and, Nat.zero_le, Nat.reduceAdd, Nat.reduceLeDiff, al_I, as_I, rl_R, ln_I, ln_R, nI_add, pk_mul, g_set, set_set, not_false_eq_true, gf0_0, gf0_1, gf0_2, gf1_0, gf1_1, gf1_2, gf1_3, gf1_4, gf1_5, gf1_6, gf1_7, gf1_8, gf1_9, gf1_10, gf1_11, gf2_0, gf2_1, gf2_2, gf3_0, gf3_1, gf4_0, gf4_1, gf4_2, gf5_0, gf5_1, gf5_2, gf5_3, gf6_0, gf6_1, gf6_2, gf6_3, gf6_4, gf6_5, gf6_6, gf7_0, gf7_1, gf7_2, gf7_3, gf7_4, gf7_5, pf0_0, pf0_1, pf0_2, pf1_0, pf1_1, pf1_2, pf1_3, pf1_4, pf1_5, pf1_6, pf1_7, pf1_8, pf1_9, pf1_10, pf1_11, pf2_0, pf2_1, pf2_2, pf3_0, pf3_1, pf4_0, pf4_1, pf4_2, pf5_0, pf5_1, pf5_2, pf5_3, pf6_0, pf6_1, pf6_2, pf6_3, pf6_4, pf6_5, pf6_6, pf7_0, pf7_1, pf7_2, pf7_3, pf7_4, pf7_5, ho]
    rw [if_neg (fun z => absurd ((nI_l1 (by omega) (by omega)).mp z) (by omega))]
    refine l_tf25 (T := T') h1 h2 hr (show i < tHn v r by omega) hnb hlp hfp hT o1 o2 o3 (fun K T2 kc ko kB kv => ?_) (tHn v r) 0 H T' (by omega) hc ho hB (fun a k ha hk => (if_neg (by omega)).symm)
    simp only [s49_66, s49_69, nI_add]
    refine ih (i + 1) K T2 _ (by omega) kc ko kB (fun a k ha hk hai => ?_)
    rw [kv a k ha hk]
    by_cases e : a = i
    · rw [if_pos e]
    · rw [if_neg e]
      exact hv a k ha hk (by omega)
/-- fill: the table is that of the cell -/
theorem m_tFill {n0 : Nat} (h1 : 1 ≤ v) (h2 : v ≤ 5) (hr : okR v r) (hnb : ex_g h nb = some (oNum (nI p) (nI lo) lp)) (hlp : ex_g h lp = some (cI 6 fp)) (hfp : ∀ j, j < 6 → fp j = nI (lo ^ j % p)) (hT : TX v r t h) (o1 : nb < tb ∨ tb + 7 ≤ nb) (o2 : lp < tb ∨ tb + 7 ≤ lp) (o3 : t + 6 + tHn v r ≤ tb ∨ tb + 7 ≤ t) (ho : ex_g h tb = some (oTb tb d0 r0 n0)) (hB : TB tb 0 T h) (hX : ∀ H, chT tb h H → ex_g H tb = some (oTb tb d0 r0 (tHn v r)) → TB tb (tHn v r) (fN v p lo r) H → X none H) : ex_W 49 0 [.ref tb, .ref nb, .ref t, oU, oU] [] h X := by
  obtain ⟨_, _, k2, k3⟩ := tHf0 h1 h2 hr
  obtain ⟨c2, c3, c4, c5, c6, ρt, q1, q2, q3⟩ := hT.hv h1 h2 hr
  obtain ⟨T', hB'⟩ := hB.all
  simp only [s49_0, s49_1, s49_2, s49_5, s49_6, s49_9, s49_12, s49_13, s49_15, s49_16, s49_19, s49_22, s49_23, s49_25, s49_27, s49_28, s49_31, s49_34, s49_35, s49_38, s49_39, s49_40, s49_42, s49_43, s49_44, s49_47, s49_48, s49_49, s49_50, s49_53, s49_55, s49_56, s49_59, s49_60, s49_63, s49_66, s49_69, s49_72, is_O, opt_s, opt_n, cat_0, cat_i, cat_r, true_and, Nat.zero_le, Nat.reduceAdd, Nat.reduceLeDiff, al_I, as_I, rl_R, ln_I, ln_R, nI_add, pk_mul, g_set, set_set, not_false_eq_true, gf0_0, gf0_1, gf0_2, gf1_0, gf1_1, gf1_2, gf1_3, gf1_4, gf1_5, gf1_6, gf1_7, gf1_8, gf1_9, gf1_10, gf1_11, gf2_0, gf2_1, gf2_2, gf3_0, gf3_1, gf4_0, gf4_1, gf4_2, gf5_0, gf5_1, gf5_2, gf5_3, gf6_0, gf6_1, gf6_2, gf6_3, gf6_4, gf6_5, gf6_6, gf7_0, gf7_1, gf7_2, gf7_3, gf7_4, gf7_5, pf0_0, pf0_1, pf0_2, pf1_0, pf1_1, pf1_2, pf1_3, pf1_4, pf1_5, pf1_6, pf1_7, pf1_8, pf1_9, pf1_10, pf1_11, pf2_0, pf2_1, pf2_2, pf3_0, pf3_1, pf4_0, pf4_1, pf4_2, pf5_0, pf5_1, pf5_2, pf5_3, pf6_0, pf6_1, pf6_2, pf6_3, pf6_4, pf6_5, pf6_6, pf7_0, pf7_1, pf7_2, pf7_3, pf7_4, pf7_5, q1, ho]
  rw [if_neg (fun z => absurd ((nI_l2 (by omega) (by omega)).mp z) (by omega))]
  exact l_tf14 h1 h2 hr hnb hlp hfp hT o1 o2 o3 hX (tHn v r) 0 _ T' _ (by omega) (chT.rfl'.set ⟨by omega, by omega⟩) g_set ((hB'.mono k3).fr (fun q q1 q2 => g_ne (by omega))) (fun a k _ _ z => by omega)
end C23
