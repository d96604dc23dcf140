/-! THE CLASS: eliminate -/
theorem zl_sw {T : Nat → Nat → Nat} {rk f n t : Nat} (hf : rk ≤ f) (hfn : f < n) (hz : ∀ a, rk ≤ a → a < n → ∀ k, k < t → T a k = 0) : ∀ a, rk ≤ a → a < n → ∀ k, k < t → swp T rk f a k = 0 := fun a ha hn k hk => by
  unfold swp
  by_cases e1 : a = rk
  · rw [if_pos e1]; exact hz f hf hfn k hk
  · rw [if_neg e1]
    by_cases e2 : a = f
    · rw [if_pos e2]; exact hz rk (Nat.le_refl _) (by omega) k hk
    · rw [if_neg e2]; exact hz a ha hn k hk
theorem zl_c0 {x w y p : Nat} (hp : 2 ≤ p) (hx : x < p) (h : y * w % p = 1) : (x + p - (x * w % p) * y % p) % p = 0 := by
  have e : (x * w % p) * y % p = x := by
    rw [Nat.mod_mul_mod, Nat.mul_assoc, Nat.mul_comm w y, Nat.mul_mod, h, Nat.mul_one, Nat.mod_mod, Nat.mod_eq_of_lt hx]
  rw [e, Nat.add_sub_cancel_left, Nat.mod_self]
theorem zl_cl {T : Nat → Nat → Nat} {rk n t p : Nat} (hp : 2 ≤ p) (hp2 : p ≤ 101) (hpr : prT p = true) (hrn : rk < n) (hTl : ∀ a k, T a k < p) (hne : T rk t ≠ 0) (hz : ∀ a, rk ≤ a → a < n → ∀ k, k < t → T a k = 0) : ∀ a, rk + 1 ≤ a → a < n → ∀ k, k < t + 1 → clrT p rk (iv p (T rk t)) t T a k = 0 := fun a ha hn k hk => by
  unfold clrT
  rw [if_pos (by omega)]
  unfold nwT
  by_cases e : k = t
  · rw [e]
    exact zl_c0 hp (hTl a t) (iv_ok hp hp2 hpr (hTl rk t) hne).2.2
  · rw [hz a (by omega) hn k (by omega), hz rk (by omega) hrn k (by omega), Nat.mul_zero, Nat.zero_mod, Nat.zero_add, Nat.sub_zero, Nat.mod_self]
section C25
variable {h H : ex_Hp} {X : Option Value → ex_Hp → Prop} {v r t p lo tb n nb lp dt rk col : Nat} {T T2 : Nat → Nat → Nat} {fp : Nat → Int32}
theorem l_el72 {l3 : Value} (hn : n ≤ 5) (hp : 2 ≤ p) (hp2 : p ≤ 101) (hpr : prT p = true) (hrn : rk < n) (ht : t < n) (hnb : ex_g h nb = some (oNum (nI p) (nI lo) lp)) (o1 : nb < tb ∨ tb + 7 ≤ nb) (hdt : dt < p) (hTl : ∀ a k, T a k < p) (hz : ∀ a, rk ≤ a → a < n → ∀ k, k < t → T a k = 0) (hc : chT tb h H) (ho : ex_g H tb = some (oTb tb dt rk n)) (hB : TB tb n T H) (hne : T rk t ≠ 0) (hX : ∀ H, chT tb h H → ex_g H tb = some (oTb tb (dt * T rk t % p) (rk + 1) n) → TB tb n (clrT p rk (iv p (T rk t)) t T) H → ex_W 50 12 [.ref tb, .ref nb, .int (nI (t + 1)), l3] [] H X) : ex_W 50 72 [.ref tb, .ref nb, .int (nI t), l3] [] H X := by
  obtain ⟨ρ, w1, f1, b1, b2, b3, b4, b5, b6, b7⟩ := hB.row hn hrn
  have g5 : ex_g H nb = _ := (hc.2.2 _ o1).trans hnb
  have q1 := nF_mul hp hp2 hdt (hTl rk t)
  rw [pk_mul] at q1
  simp only [s50_0, s50_1, s50_2, s50_5, s50_6, s50_7, s50_10, s50_11, s50_13, s50_14, s50_17, s50_20, s50_21, s50_22, s50_25, s50_26, s50_27, s50_28, s50_31, s50_34, s50_35, s50_36, s50_39, s50_42, s50_43, s50_44, s50_47, s50_50, s50_51, s50_52, s50_53, s50_56, s50_59, s50_60, s50_61, s50_62, s50_63, s50_66, s50_69, s50_72, s50_73, s50_74, s50_75, s50_78, s50_79, s50_82, s50_83, s50_86, s50_87, s50_88, s50_89, s50_92, s50_95, s50_96, s50_97, s50_98, s50_101, s50_102, s50_103, s50_106, s50_107, s50_108, s50_111, s50_114, s50_117, is_O, opt_s, opt_n, cat_0, cat_i, cat_r, true_and, Nat.zero_le, Nat.reduceAdd, Nat.reduceLeDiff, al_I, as_I, rl_R, ln_I, ln_R, nI_add, pk_mul, g_set, set_set, not_false_eq_true, gf0_0, gf0_1, gf0_2, gf1_0, gf1_1, gf1_2, gf1_3, gf1_4, gf1_5, gf1_6, gf1_7, gf1_8, gf1_9, gf1_10, gf1_11, gf2_0, gf2_1, gf2_2, gf3_0, gf3_1, gf4_0, gf4_1, gf4_2, gf5_0, gf5_1, gf5_2, gf5_3, gf6_0, gf6_1, gf6_2, gf6_3, gf6_4, gf6_5, gf6_6, gf7_0, gf7_1, gf7_2, gf7_3, gf7_4, gf7_5, pf0_0, pf0_1, pf0_2, pf1_0, pf1_1, pf1_2, pf1_3, pf1_4, pf1_5, pf1_6, pf1_7, pf1_8, pf1_9, pf1_10, pf1_11, pf2_0, pf2_1, pf2_2, pf3_0, pf3_1, pf4_0, pf4_1, pf4_2, pf5_0, pf5_1, pf5_2, pf5_3, pf6_0, pf6_1, pf6_2, pf6_3, pf6_4, pf6_5, pf6_6, pf7_0, pf7_1, pf7_2, pf7_3, pf7_4, pf7_5, ho, b1, xi_n (show rk < 5 by omega) (show 5 < 2147483648 by decide), xi_n (show t < 5 by omega) (show 5 < 2147483648 by decide), vr_s b2, b5, b6 t ht, g5, m_mul g5, q1]
  have hc1 : chT tb h (ex_set H tb (oTb tb (dt * T rk t % p) rk n)) := hc.set ⟨by omega, by omega⟩
  refine m_tClear (h := ex_set H tb (oTb tb (dt * T rk t % p) rk n)) (T := T) hn hp hp2 hpr hrn ht ((g_ne (by omega)).trans g5) o1 hTl hz g_set (hB.fr (fun q q1 q2 => g_ne (by omega))) hne (fun K kc ko kB => ?_)
  simp only [s50_0, s50_1, s50_2, s50_5, s50_6, s50_7, s50_10, s50_11, s50_13, s50_14, s50_17, s50_20, s50_21, s50_22, s50_25, s50_26, s50_27, s50_28, s50_31, s50_34, s50_35, s50_36, s50_39, s50_42, s50_43, s50_44, s50_47, s50_50, s50_51, s50_52, s50_53, s50_56, s50_59, s50_60, s50_61, s50_62, s50_63, s50_66, s50_69, s50_72, s50_73, s50_74, s50_75, s50_78, s50_79, s50_82, s50_83, s50_86, s50_87, s50_88, s50_89, s50_92, s50_95, s50_96, s50_97, s50_98, s50_101, s50_102, s50_103, s50_106, s50_107, s50_108, s50_111, s50_114, s50_117, is_O, opt_s, opt_n, cat_0, cat_i, cat_r, true_and, Nat.zero_le, Nat.reduceAdd, Nat.reduceLeDiff, al_I, as_I, rl_R, ln_I, ln_R, nI_add, pk_mul, g_set, set_set, not_false_eq_true, gf0_0, gf0_1, gf0_2, gf1_0, gf1_1, gf1_2, gf1_3, gf1_4, gf1_5, gf1_6, gf1_7, gf1_8, gf1_9, gf1_10, gf1_11, gf2_0, gf2_1, gf2_2, gf3_0, gf3_1, gf4_0, gf4_1, gf4_2, gf5_0, gf5_1, gf5_2, gf5_3, gf6_0, gf6_1, gf6_2, gf6_3, gf6_4, gf6_5, gf6_6, gf7_0, gf7_1, gf7_2, gf7_3, gf7_4, gf7_5, pf0_0, pf0_1, pf0_2, pf1_0, pf1_1, pf1_2, pf1_3, pf1_4, pf1_5, pf1_6, pf1_7, pf1_8, pf1_9, pf1_10, pf1_11, pf2_0, pf2_1, pf2_2, pf3_0, pf3_1, pf4_0, pf4_1, pf4_2, pf5_0, pf5_1, pf5_2, pf5_3, pf6_0, pf6_1, pf6_2, pf6_3, pf6_4, pf6_5, pf6_6, pf7_0, pf7_1, pf7_2, pf7_3, pf7_4, pf7_5, ko]
  exact hX _ ((hc1.trans kc).set ⟨by omega, by omega⟩) g_set (kB.fr (fun q q1 q2 => g_ne (by omega)))
theorem l_el12 (hn : n ≤ 5) (hp : 2 ≤ p) (hp2 : p ≤ 101) (hpr : prT p = true) (hnb : ex_g h nb = some (oNum (nI p) (nI lo) lp)) (o1 : nb < tb ∨ tb + 7 ≤ nb) : ∀ (m t : Nat) (x : (Nat → Nat → Nat) × Nat × Nat) (H : ex_Hp) (l3 : Value), m + t = n → chT tb h H → ex_g H tb = some (oTb tb x.2.2 x.2.1 n) → TB tb n x.1 H → x.2.1 ≤ t → x.2.2 < p → (∀ a k, x.1 a k < p) → (∀ a, x.2.1 ≤ a → a < n → ∀ k, k < t → x.1 a k = 0) → (∀ H, chT tb h H → ex_g H tb = some (oTb tb (elm p n m t x).2.2 (elm p n m t x).2.1 n) → (∃ T, TB tb 0 T H) → X none H) → ex_W 50 12 [.ref tb, .ref nb, .int (nI t), l3] [] H X := by
  intro m
  induction m with
  | zero =>
    intro t x H l3 hm hc ho hB hrk hdt hTl hz hX
    obtain rfl : t = n := by omega
    rw [s50_12]
    simp only [s50_0, s50_1, s50_2, s50_5, s50_6, s50_7, s50_10, s50_11, s50_13, s50_14, s50_17, s50_20, s50_21, s50_22, s50_25, s50_26, s50_27, s50_28, s50_31, s50_34, s50_35, s50_36, s50_39, s50_42, s50_43, s50_44, s50_47, s50_50, s50_51, s50_52, s50_53, s50_56, s50_59, s50_60, s50_61, s50_62, s50_63, s50_66, s50_69, s50_72, s50_73, s50_74, s50_75, s50_78, s50_79, s50_82, s50_83, s50_86, s50_87, s50_88, s50_89, s50_92, s50_95, s50_96, s50_97, s50_98, s50_101, s50_102, s50_103, s50_106, s50_107, s50_108, s50_111, s50_114, s50_117, is_O, opt_s, opt_n, cat_0, cat_i, cat_r, true_and, Nat.zero_le, Nat.reduceAdd, Nat.reduceLeDiff, al_I, as_I, rl_R, ln_I, ln_R, nI_add, pk_mul, g_set, set_set, not_false_eq_true, gf0_0, gf0_1, gf0_2, gf1_0, gf1_1, gf1_2, gf1_3, gf1_4, gf1_5, gf1_6, gf1_7, gf1_8, gf1_9, gf1_10, gf1_11, gf2_0, gf2_1, gf2_2, gf3_0, gf3_1, gf4_0, gf4_1, gf4_2, gf5_0, gf5_1, gf5_2, gf5_3, gf6_0, gf6_1, gf6_2, gf6_3, gf6_4, gf6_5, gf6_6, gf7_0, gf7_1, gf7_2, gf7_3, gf7_4, gf7_5, pf0_0, pf0_1, pf0_2, pf1_0, pf1_1, pf1_2, pf1_3, pf1_4, pf1_5, pf1_6, pf1_7, pf1_8, pf1_9, pf1_10, pf1_11, pf2_0, pf2_1, pf2_2, pf3_0, pf3_1, pf4_0, pf4_1, pf4_2, pf5_0, pf5_1, pf5_2, pf5_3, pf6_0, pf6_1, pf6_2, pf6_3, pf6_4, pf6_5, pf6_6, pf7_0, pf7_1, pf7_2, pf7_3, pf7_4, pf7_5, ho]
    rw [if_pos ((nI_l1 (by omega) (by omega)).mpr (by omega))]
    exact hX H hc ho ⟨_, hB.mono (Nat.zero_le _)⟩
  | succ m ih =>
    intro t x H l3 hm hc ho hB hrk hdt hTl hz hX
    obtain ⟨T, rk, dt⟩ := x
    simp only at ho hB hrk hdt hTl hz
    have ht : t < n := by omega
    have g5 : ex_g H nb = _ := (hc.2.2 _ o1).trans hnb
    rw [elm] at hX
    unfold stE at hX
    simp only at hX
    rw [s50_12]
    simp only [s50_0, s50_1, s50_2, s50_5, s50_6, s50_7, s50_10, s50_11, s50_13, s50_14, s50_17, s50_20, s50_21, s50_22, s50_25, s50_26, s50_27, s50_28, s50_31, s50_34, s50_35, s50_36, s50_39, s50_42, s50_43, s50_44, s50_47, s50_50, s50_51, s50_52, s50_53, s50_56, s50_59, s50_60, s50_61, s50_62, s50_63, s50_66, s50_69, s50_73, s50_74, s50_75, s50_78, s50_79, s50_82, s50_83, s50_86, s50_87, s50_88, s50_89, s50_92, s50_95, s50_96, s50_97, s50_98, s50_101, s50_102, s50_103, s50_106, s50_107, s50_108, s50_111, s50_114, s50_117, is_O, opt_s, opt_n, cat_0, cat_i, cat_r, true_and, Nat.zero_le, Nat.reduceAdd, Nat.reduceLeDiff, al_I, as_I, rl_R, ln_I, ln_R, nI_add, pk_mul, g_set, set_set, not_false_eq_true, gf0_0, gf0_1, gf0_2, gf1_0, gf1_1, gf1_2, gf1_3, gf1_4, gf1_5, gf1_6, gf1_7, gf1_8, gf1_9, gf1_10, gf1_11, gf2_0, gf2_1, gf2_2, gf3_0, gf3_1, gf4_0, gf4_1, gf4_2, gf5_0, gf5_1, gf5_2, gf5_3, gf6_0, gf6_1, gf6_2, gf6_3, gf6_4, gf6_5, gf6_6, gf7_0, gf7_1, gf7_2, gf7_3, gf7_4, gf7_5, pf0_0, pf0_1, pf0_2, pf1_0, pf1_1, pf1_2, pf1_3, pf1_4, pf1_5, pf1_6, pf1_7, pf1_8, pf1_9, pf1_10, pf1_11, pf2_0, pf2_1, pf2_2, pf3_0, pf3_1, pf4_0, pf4_1, pf4_2, pf5_0, pf5_1, pf5_2, pf5_3, pf6_0, pf6_1, pf6_2, pf6_3, pf6_4, pf6_5, pf6_6, pf7_0, pf7_1, pf7_2, pf7_3, pf7_4, pf7_5, ho, s51_0, s51_1, s51_4]
    rw [if_neg (fun z => absurd ((nI_l1 (by omega) (by omega)).mp z) (by omega))]
    refine l_fp hn ht ho hB (fun a k => by have := hTl a k; omega) (n - rk) rk (by omega) ?_
    cases hf : fdr T t (n - rk) rk with
    | none =>
      rw [hf] at hX
      simp only [s50_0, s50_1, s50_2, s50_5, s50_6, s50_7, s50_10, s50_11, s50_13, s50_14, s50_17, s50_20, s50_21, s50_22, s50_25, s50_26, s50_27, s50_28, s50_31, s50_34, s50_35, s50_36, s50_39, s50_42, s50_43, s50_44, s50_47, s50_50, s50_51, s50_52, s50_53, s50_56, s50_59, s50_60, s50_61, s50_62, s50_63, s50_66, s50_69, s50_73, s50_74, s50_75, s50_78, s50_79, s50_82, s50_83, s50_86, s50_87, s50_88, s50_89, s50_92, s50_95, s50_96, s50_97, s50_98, s50_101, s50_102, s50_103, s50_106, s50_107, s50_108, s50_111, s50_114, s50_117, is_O, opt_s, opt_n, cat_0, cat_i, cat_r, true_and, Nat.zero_le, Nat.reduceAdd, Nat.reduceLeDiff, al_I, as_I, rl_R, ln_I, ln_R, nI_add, pk_mul, g_set, set_set, not_false_eq_true, gf0_0, gf0_1, gf0_2, gf1_0, gf1_1, gf1_2, gf1_3, gf1_4, gf1_5, gf1_6, gf1_7, gf1_8, gf1_9, gf1_10, gf1_11, gf2_0, gf2_1, gf2_2, gf3_0, gf3_1, gf4_0, gf4_1, gf4_2, gf5_0, gf5_1, gf5_2, gf5_3, gf6_0, gf6_1, gf6_2, gf6_3, gf6_4, gf6_5, gf6_6, gf7_0, gf7_1, gf7_2, gf7_3, gf7_4, gf7_5, pf0_0, pf0_1, pf0_2, pf1_0, pf1_1, pf1_2, pf1_3, pf1_4, pf1_5, pf1_6, pf1_7, pf1_8, pf1_9, pf1_10, pf1_11, pf2_0, pf2_1, pf2_2, pf3_0, pf3_1, pf4_0, pf4_1, pf4_2, pf5_0, pf5_1, pf5_2, pf5_3, pf6_0, pf6_1, pf6_2, pf6_3, pf6_4, pf6_5, pf6_6, pf7_0, pf7_1, pf7_2, pf7_3, pf7_4, pf7_5, ho, Option.getD_none]
      rw [if_neg (fun z => z trivial)]
      refine ih (t + 1) (T, rk, 0) _ _ (by omega) (hc.set ⟨by omega, by omega⟩) g_set (hB.fr (fun q q1 q2 => g_ne (by omega))) (by show rk ≤ t + 1; omega) (by show 0 < p; omega) hTl (fun a ha han k hk => ?_) hX
      by_cases e : k = t
      · rw [e]; exact fdr_no _ _ hf a ha (by omega)
      · exact hz a ha han k (by omega)
    | some f =>
      rw [hf] at hX
      dsimp only at hX
      obtain ⟨c1, c2, c3⟩ := fdr_ok _ _ _ hf
      have hf2 : f < n := by omega
      have hrn : rk < n := by omega
      have hsw : swp T rk f rk t ≠ 0 := by unfold swp; rw [if_pos rfl]; exact c3
      have hl1 := swp_lt (i := rk) (j := f) hTl
      have hz1 := zl_sw c1 hf2 hz
      have hz2 := zl_cl hp hp2 hpr hrn hl1 hsw hz1
      simp only [s50_0, s50_1, s50_2, s50_5, s50_6, s50_7, s50_10, s50_11, s50_13, s50_14, s50_17, s50_20, s50_21, s50_22, s50_25, s50_26, s50_27, s50_28, s50_31, s50_34, s50_35, s50_36, s50_39, s50_42, s50_43, s50_44, s50_47, s50_50, s50_51, s50_52, s50_53, s50_56, s50_59, s50_60, s50_61, s50_62, s50_63, s50_66, s50_69, s50_73, s50_74, s50_75, s50_78, s50_79, s50_82, s50_83, s50_86, s50_87, s50_88, s50_89, s50_92, s50_95, s50_96, s50_97, s50_98, s50_101, s50_102, s50_103, s50_106, s50_107, s50_108, s50_111, s50_114, s50_117, is_O, opt_s, opt_n, cat_0, cat_i, cat_r, true_and, Nat.zero_le, Nat.reduceAdd, Nat.reduceLeDiff, al_I, as_I, rl_R, ln_I, ln_R, nI_add, pk_mul, g_set, set_set, not_false_eq_true, gf0_0, gf0_1, gf0_2, gf1_0, gf1_1, gf1_2, gf1_3, gf1_4, gf1_5, gf1_6, gf1_7, gf1_8, gf1_9, gf1_10, gf1_11, gf2_0, gf2_1, gf2_2, gf3_0, gf3_1, gf4_0, gf4_1, gf4_2, gf5_0, gf5_1, gf5_2, gf5_3, gf6_0, gf6_1, gf6_2, gf6_3, gf6_4, gf6_5, gf6_6, gf7_0, gf7_1, gf7_2, gf7_3, gf7_4, gf7_5, pf0_0, pf0_1, pf0_2, pf1_0, pf1_1, pf1_2, pf1_3, pf1_4, pf1_5, pf1_6, pf1_7, pf1_8, pf1_9, pf1_10, pf1_11, pf2_0, pf2_1, pf2_2, pf3_0, pf3_1, pf4_0, pf4_1, pf4_2, pf5_0, pf5_1, pf5_2, pf5_3, pf6_0, pf6_1, pf6_2, pf6_3, pf6_4, pf6_5, pf6_6, pf7_0, pf7_1, pf7_2, pf7_3, pf7_4, pf7_5, ho, Option.getD_some]
      rw [if_pos (fun z => absurd ((nI_e (by omega) (by omega)).mp z) (by omega))]
      by_cases e : rk = f
      · simp only [if_pos e] at hX
        rw [if_pos (by rw [e])]
        have hB1 : TB tb n (swp T rk f) H := hB.ext (fun a _ k _ => by
          unfold swp
          by_cases e1 : a = rk
          · rw [if_pos e1, ← e, e1]
          · rw [if_neg e1, if_neg (by omega)])
        refine l_el72 hn hp hp2 hpr hrn ht hnb o1 hdt hl1 hz1 hc ho hB1 hsw (fun K kc ko kB => ?_)
        exact ih (t + 1) (clrT p rk (iv p (swp T rk f rk t)) t (swp T rk f), rk + 1, dt * swp T rk f rk t % p) K _ (by omega) kc ko kB (by show rk + 1 ≤ t + 1; omega) (Nat.mod_lt _ (by omega)) (clrT_lt hp hl1) hz2 hX
      · simp only [if_neg e] at hX
        rw [if_neg (fun z => absurd ((nI_e (by omega) (by omega)).mp z) (by omega))]
        refine m_tSwap hn hf2 hrn ho hB (fun K kc ko kB => ?_)
        have g6 : ex_g K nb = _ := (kc.2.2 _ o1).trans g5
        have q2 := nF_s (a := 0) (b := dt) hp (by omega) (by omega) (by omega)
        simp only [s50_0, s50_1, s50_2, s50_5, s50_6, s50_7, s50_10, s50_11, s50_13, s50_14, s50_17, s50_20, s50_21, s50_22, s50_25, s50_26, s50_27, s50_28, s50_31, s50_34, s50_35, s50_36, s50_39, s50_42, s50_43, s50_44, s50_47, s50_50, s50_51, s50_52, s50_53, s50_56, s50_59, s50_60, s50_61, s50_62, s50_63, s50_66, s50_69, s50_73, s50_74, s50_75, s50_78, s50_79, s50_82, s50_83, s50_86, s50_87, s50_88, s50_89, s50_92, s50_95, s50_96, s50_97, s50_98, s50_101, s50_102, s50_103, s50_106, s50_107, s50_108, s50_111, s50_114, s50_117, is_O, opt_s, opt_n, cat_0, cat_i, cat_r, true_and, Nat.zero_le, Nat.reduceAdd, Nat.reduceLeDiff, al_I, as_I, rl_R, ln_I, ln_R, nI_add, pk_mul, g_set, set_set, not_false_eq_true, gf0_0, gf0_1, gf0_2, gf1_0, gf1_1, gf1_2, gf1_3, gf1_4, gf1_5, gf1_6, gf1_7, gf1_8, gf1_9, gf1_10, gf1_11, gf2_0, gf2_1, gf2_2, gf3_0, gf3_1, gf4_0, gf4_1, gf4_2, gf5_0, gf5_1, gf5_2, gf5_3, gf6_0, gf6_1, gf6_2, gf6_3, gf6_4, gf6_5, gf6_6, gf7_0, gf7_1, gf7_2, gf7_3, gf7_4, gf7_5, pf0_0, pf0_1, pf0_2, pf1_0, pf1_1, pf1_2, pf1_3, pf1_4, pf1_5, pf1_6, pf1_7, pf1_8, pf1_9, pf1_10, pf1_11, pf2_0, pf2_1, pf2_2, pf3_0, pf3_1, pf4_0, pf4_1, pf4_2, pf5_0, pf5_1, pf5_2, pf5_3, pf6_0, pf6_1, pf6_2, pf6_3, pf6_4, pf6_5, pf6_6, pf7_0, pf7_1, pf7_2, pf7_3, pf7_4, pf7_5, ko, g6, m_sub g6, q2]
        have hc1 : chT tb h (ex_set K tb (oTb tb ((0 + p - dt) % p) rk n)) := (hc.trans kc).set ⟨by omega, by omega⟩
        refine l_el72 hn hp hp2 hpr hrn ht hnb o1 (Nat.mod_lt _ (by omega)) hl1 hz1 hc1 g_set (kB.fr (fun q q1 q2 => g_ne (by omega))) hsw (fun G gc go gB => ?_)
        exact ih (t + 1) (clrT p rk (iv p (swp T rk f rk t)) t (swp T rk f), rk + 1, (0 + p - dt) % p * swp T rk f rk t % p) G _ (by omega) gc go gB (by show rk + 1 ≤ t + 1; omega) (Nat.mod_lt _ (by omega)) (clrT_lt hp hl1) hz2 hX
/-- eliminate: rank and determinant of the cell's table -/
theorem m_tElim {d0 r0 : Nat} (h1 : 1 ≤ v) (h2 : v ≤ 5) (hr : okR v r) (hp : 2 ≤ p) (hp2 : p ≤ 101) (hpr : prT p = true) (hnb : ex_g h nb = some (oNum (nI p) (nI lo) lp)) (o1 : nb < tb ∨ tb + 7 ≤ nb) (ho : ex_g h tb = some (oTb tb d0 r0 (tHn v r))) (hB : TB tb (tHn v r) (fN v p lo r) h) (hX : ∀ H, chT tb h H → ex_g H tb = some (oTb tb (elmR v p lo r).2.2 (elmR v p lo r).2.1 (tHn v r)) → (∃ T, TB tb 0 T H) → X none H) : ex_W 50 0 [.ref tb, .ref nb, oU, oU] [] h X := by
  obtain ⟨_, _, k2, k3⟩ := tHf0 h1 h2 hr
  simp only [s50_0, s50_1, s50_2, s50_5, s50_6, s50_7, s50_10, s50_11, s50_13, s50_14, s50_17, s50_20, s50_21, s50_22, s50_25, s50_26, s50_27, s50_28, s50_31, s50_34, s50_35, s50_36, s50_39, s50_42, s50_43, s50_44, s50_47, s50_50, s50_51, s50_52, s50_53, s50_56, s50_59, s50_60, s50_61, s50_62, s50_63, s50_66, s50_69, s50_72, s50_73, s50_74, s50_75, s50_78, s50_79, s50_82, s50_83, s50_86, s50_87, s50_88, s50_89, s50_92, s50_95, s50_96, s50_97, s50_98, s50_101, s50_102, s50_103, s50_106, s50_107, s50_108, s50_111, s50_114, s50_117, is_O, opt_s, opt_n, cat_0, cat_i, cat_r, true_and, Nat.zero_le, Nat.reduceAdd, Nat.reduceLeDiff, al_I, as_I, rl_R, ln_I, ln_R, nI_add, pk_mul, g_set, set_set, not_false_eq_true, gf0_0, gf0_1, gf0_2, gf1_0, gf1_1, gf1_2, gf1_3, gf1_4, gf1_5, gf1_6, gf1_7, gf1_8, gf1_9, gf1_10, gf1_11, gf2_0, gf2_1, gf2_2, gf3_0, gf3_1, gf4_0, gf4_1, gf4_2, gf5_0, gf5_1, gf5_2, gf5_3, gf6_0, gf6_1, gf6_2, gf6_3, gf6_4, gf6_5, gf6_6, gf7_0, gf7_1, gf7_2, gf7_3, gf7_4, gf7_5, pf0_0, pf0_1, pf0_2, pf1_0, pf1_1, pf1_2, pf1_3, pf1_4, pf1_5, pf1_6, pf1_7, pf1_8, pf1_9, pf1_10, pf1_11, pf2_0, pf2_1, pf2_2, pf3_0, pf3_1, pf4_0, pf4_1, pf4_2, pf5_0, pf5_1, pf5_2, pf5_3, pf6_0, pf6_1, pf6_2, pf6_3, pf6_4, pf6_5, pf6_6, pf7_0, pf7_1, pf7_2, pf7_3, pf7_4, pf7_5, ho]
  exact l_el12 k3 hp hp2 hpr hnb o1 (tHn v r) 0 (fN v p lo r, 0, 1) _ _ (by omega) (chT.rfl'.set ⟨by omega, by omega⟩) g_set (hB.fr (fun q q1 q2 => g_ne (by omega))) (by show 0 ≤ 0; omega) (by show 1 < p; omega) (fun a k => fN_lt hp) (fun a _ _ k hk => by omega) hX
theorem dfl5 : ex_dfl 5 = [.int 0, .int 0, .null, .int 0] := by decide +kernel
theorem dfl0 : ex_dfl 0 = [.null, .null, .null] := by decide +kernel
theorem dfl3 : ex_dfl 3 = [.null, .int 0] := by decide +kernel
theorem m_Table (hn : h.1 = tb + 1) (ht : ex_g h tb = some (cO 5 (ex_dfl 5))) (hX : ∀ H, H.1 = tb + 7 → H.2.1 = h.2.1 + 30 → (∀ q, q < tb → ex_g H q = ex_g h q) → ex_g H tb = some (oTb tb 0 0 0) → (∃ T, TB tb 0 T H) → X none H) : ex_W 48 0 [.ref tb] [] h X := by
  rw [dfl5] at ht
  simp only [s48_0, s48_1, s48_4, s48_5, s48_6, s48_7, s48_11, s48_14, is_O, opt_s, opt_n, cat_0, cat_i, cat_r, true_and, Nat.zero_le, Nat.reduceAdd, Nat.reduceLeDiff, al_I, as_I, rl_R, ln_I, ln_R, nI_add, pk_mul, g_set, set_set, not_false_eq_true, gf0_0, gf0_1, gf0_2, gf1_0, gf1_1, gf1_2, gf1_3, gf1_4, gf1_5, gf1_6, gf1_7, gf1_8, gf1_9, gf1_10, gf1_11, gf2_0, gf2_1, gf2_2, gf3_0, gf3_1, gf4_0, gf4_1, gf4_2, gf5_0, gf5_1, gf5_2, gf5_3, gf6_0, gf6_1, gf6_2, gf6_3, gf6_4, gf6_5, gf6_6, gf7_0, gf7_1, gf7_2, gf7_3, gf7_4, gf7_5, pf0_0, pf0_1, pf0_2, pf1_0, pf1_1, pf1_2, pf1_3, pf1_4, pf1_5, pf1_6, pf1_7, pf1_8, pf1_9, pf1_10, pf1_11, pf2_0, pf2_1, pf2_2, pf3_0, pf3_1, pf4_0, pf4_1, pf4_2, pf5_0, pf5_1, pf5_2, pf5_3, pf6_0, pf6_1, pf6_2, pf6_3, pf6_4, pf6_5, pf6_6, pf7_0, pf7_1, pf7_2, pf7_3, pf7_4, pf7_5, na_n (show 5 ≤ 100000 by decide), g_n2l (show tb < h.1 by omega), ht, hn]
  refine hX _ ?_ ?_ (fun q hq => ?_) ?_ ?_
  · rw [set_1, new2_1, hn]
  · rw [set_2, new2_2]
  · rw [g_ne (by omega), g_n2l (by omega)]
  · rw [g_set]; rfl
  · refine ⟨fun _ _ => 0, fun i => if i < 5 then some (h.1 + 1 + i) else none, fun i => i, ?_, fun i hi => ⟨?_, hi⟩, fun i j _ _ z => z, fun i hi => ⟨fun _ => nI 0, ?_, fun z => by omega⟩⟩
    · rw [g_ne (by omega), ← hn]; exact g_new2o
    · try dsimp only
      rw [if_pos hi, hn]
    · rw [g_ne (by omega), show tb + 2 + i = h.1 + 1 + i by omega]; exact g_new2r hi
theorem m_Algebra {al : Nat} (hn : h.1 = al + 1) (ha : ex_g h al = some (cO 0 (ex_dfl 0))) (hX : ∀ H, H.1 = al + 4 → H.2.1 = h.2.1 + 126 → (∀ q, q < al → ex_g H q = ex_g h q) → ex_g H al = some (oAl al) → isI (al + 1) H → isI (al + 2) H → isI (al + 3) H → X none H) : ex_W 0 0 [.ref al] [] h X := by
  rw [dfl0] at ha
  have j0 : al < al + 1 := by omega
  have j1 : al < al + 1 + 1 := by omega
  have j2 : al < al + 1 + 1 + 1 := by omega
  simp only [s0_0, s0_1, s0_4, s0_5, s0_7, s0_9, s0_12, s0_13, s0_15, s0_17, s0_20, s0_21, s0_23, s0_25, s0_28, is_O, opt_s, opt_n, cat_0, cat_i, cat_r, true_and, Nat.zero_le, Nat.reduceAdd, Nat.reduceLeDiff, al_I, as_I, rl_R, ln_I, ln_R, nI_add, pk_mul, g_set, set_set, not_false_eq_true, gf0_0, gf0_1, gf0_2, gf1_0, gf1_1, gf1_2, gf1_3, gf1_4, gf1_5, gf1_6, gf1_7, gf1_8, gf1_9, gf1_10, gf1_11, gf2_0, gf2_1, gf2_2, gf3_0, gf3_1, gf4_0, gf4_1, gf4_2, gf5_0, gf5_1, gf5_2, gf5_3, gf6_0, gf6_1, gf6_2, gf6_3, gf6_4, gf6_5, gf6_6, gf7_0, gf7_1, gf7_2, gf7_3, gf7_4, gf7_5, pf0_0, pf0_1, pf0_2, pf1_0, pf1_1, pf1_2, pf1_3, pf1_4, pf1_5, pf1_6, pf1_7, pf1_8, pf1_9, pf1_10, pf1_11, pf2_0, pf2_1, pf2_2, pf3_0, pf3_1, pf4_0, pf4_1, pf4_2, pf5_0, pf5_1, pf5_2, pf5_3, pf6_0, pf6_1, pf6_2, pf6_3, pf6_4, pf6_5, pf6_6, pf7_0, pf7_1, pf7_2, pf7_3, pf7_4, pf7_5, na_n (show 42 ≤ 100000 by decide), g_nl, ha, hn, new_1, set_1, j0, j1, j2]
  obtain ⟨p1, p2, p3, p4, p5⟩ := st_np (K := h) (a := al) (E' := al + 1) (c := .inl (0, 42, fun _ => 0)) (n := 42) (c' := cO 0 [.ref (al + 1), .null, .null]) hn j0
  obtain ⟨q1, q2, q3, q4, q5⟩ := st_np (a := al) (E' := al + 1 + 1) (c := .inl (0, 42, fun _ => 0)) (n := 42) (c' := cO 0 [.ref (al + 1), .ref (al + 1 + 1), .null]) p1 j1
  obtain ⟨r1, r2, r3, r4, r5⟩ := st_np (a := al) (E' := al + 1 + 1 + 1) (c := .inl (0, 42, fun _ => 0)) (n := 42) (c' := cO 0 [.ref (al + 1), .ref (al + 1 + 1), .ref (al + 1 + 1 + 1)]) q1 j2
  refine hX _ r1 ?_ (fun q hq => ?_) r3 ⟨_, (r5 _ (by omega) (by omega)).trans ((q5 _ (by omega) (by omega)).trans p4)⟩ ⟨_, (r5 _ (by omega) (by omega)).trans q4⟩ ⟨_, r4⟩
  · rw [r2, q2, p2]
  · exact (r5 q (by omega) (by omega)).trans ((q5 q (by omega) (by omega)).trans (p5 q (by omega) (by omega)))
theorem m_Pad {pd : Nat} (hn : h.1 = pd + 1) (ha : ex_g h pd = some (cO 3 (ex_dfl 3))) (hX : ∀ H, H.1 = pd + 2 → H.2.1 = h.2.1 + 24 → (∀ q, q < pd → ex_g H q = ex_g h q) → ex_g H pd = some (oPd (pd + 1) 0) → ex_g H (pd + 1) = some (cI 24 (fun _ => 0)) → X none H) : ex_W 36 0 [.ref pd] [] h X := by
  rw [dfl3] at ha
  have j0 : pd < pd + 1 := by omega
  simp only [s36_0, s36_1, s36_4, s36_5, s36_7, s36_9, s36_12, is_O, opt_s, opt_n, cat_0, cat_i, cat_r, true_and, Nat.zero_le, Nat.reduceAdd, Nat.reduceLeDiff, al_I, as_I, rl_R, ln_I, ln_R, nI_add, pk_mul, g_set, set_set, not_false_eq_true, gf0_0, gf0_1, gf0_2, gf1_0, gf1_1, gf1_2, gf1_3, gf1_4, gf1_5, gf1_6, gf1_7, gf1_8, gf1_9, gf1_10, gf1_11, gf2_0, gf2_1, gf2_2, gf3_0, gf3_1, gf4_0, gf4_1, gf4_2, gf5_0, gf5_1, gf5_2, gf5_3, gf6_0, gf6_1, gf6_2, gf6_3, gf6_4, gf6_5, gf6_6, gf7_0, gf7_1, gf7_2, gf7_3, gf7_4, gf7_5, pf0_0, pf0_1, pf0_2, pf1_0, pf1_1, pf1_2, pf1_3, pf1_4, pf1_5, pf1_6, pf1_7, pf1_8, pf1_9, pf1_10, pf1_11, pf2_0, pf2_1, pf2_2, pf3_0, pf3_1, pf4_0, pf4_1, pf4_2, pf5_0, pf5_1, pf5_2, pf5_3, pf6_0, pf6_1, pf6_2, pf6_3, pf6_4, pf6_5, pf6_6, pf7_0, pf7_1, pf7_2, pf7_3, pf7_4, pf7_5, na_n (show 24 ≤ 100000 by decide), g_nl, ha, hn, j0]
  obtain ⟨p1, p2, p3, p4, p5⟩ := st_np (K := h) (a := pd) (E' := pd + 1) (c := .inl (0, 24, fun _ => 0)) (n := 24) (c' := cO 3 [.ref (pd + 1), .int 0]) hn j0
  exact hX _ p1 p2 (fun q hq => p5 q (by omega) (by omega)) p3 p4
end C25
