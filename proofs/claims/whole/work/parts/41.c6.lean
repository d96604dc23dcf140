/-! THE CLASS: packedStack, turned, through, closedLoops -/
section C6
variable {h H : ex_Hp} {X : Option Value → ex_Hp → Prop} {v a x y u l d : Nat} {c3 c4 c6 c7 c8 : Value} {fu fl : Nat → Int32}
theorem key_lt (hx : x < tC v) (hy : y < tC v) : x * tC v + y < tC v * tC v := by
  have : (x + 1) * tC v ≤ tC v * tC v := Nat.mul_le_mul_right _ hx
  rw [Nat.add_mul, Nat.one_mul] at this
  omega
theorem key_inj {x2 y2 : Nat} (hy : y < tC v) (hy2 : y2 < tC v) (he : x * tC v + y = x2 * tC v + y2) : x = x2 ∧ y = y2 := by
  have hC : 0 < tC v := by omega
  have a1 : (x * tC v + y) / tC v = x := by rw [Nat.mul_comm, Nat.mul_add_div hC, Nat.div_eq_of_lt hy, Nat.add_zero]
  have a2 : (x2 * tC v + y2) / tC v = x2 := by rw [Nat.mul_comm, Nat.mul_add_div hC, Nat.div_eq_of_lt hy2, Nat.add_zero]
  rw [he, a2] at a1
  subst a1
  exact ⟨rfl, by omega⟩
theorem m1_ne {k : Nat} (hk : k < 2147483648) : ¬ nI k = -1 := fun z => by
  have := congrArg Int32.toInt z
  rw [nI_toInt (by have e : (2:Nat)^31 = 2147483648 := rfl; omega), show (-1 : Int32).toInt = -1 by decide] at this
  omega
theorem l_pk47 {k : Value} (h1 : 1 ≤ v) (h2 : v ≤ 5) (hx : x < tC v) (hy : y < tC v) (hD : DK v a c3 c4 c6 c7 c8 h) (hu : ex_g h u = some (cI (2 * v) fu)) (hl : ex_g h l = some (cI (2 * v) fl)) (hu2 : u < a + eO v) (hl2 : l < a + eO v) (hfu : ∀ j, j < 2 * v → fu j = nI (tR v x j)) (hfl : ∀ j, j < 2 * v → fl j = nI (tR v y j)) {l1 l2 : Value} (hX : ∀ H f, chD v a h H → DK v a c3 c4 c6 c7 c8 H → ex_g H (a + eO v) = some (cI (2 * v) f) → (∀ j, j < 2 * v → f j = nI (tR v (tP v x y) j)) → ex_W 19 79 [.ref a, l1, l2, k, .ref u, .ref l, .int (nI (2 * v))] [] H X) : ∀ (m t : Nat) (H : ex_Hp) (f : Nat → Int32), m + t = 2 * v → chD v a h H → DK v a c3 c4 c6 c7 c8 H → ex_g H (a + eO v) = some (cI (2 * v) f) → (∀ j, j < t → f j = nI (tR v (tP v x y) j)) → ex_W 19 47 [.ref a, l1, l2, k, .ref u, .ref l, .int (nI t)] [] H X := by
  intro m
  induction m with
  | zero =>
    intro t H f hm hH hK gf hf
    obtain rfl : t = 2 * v := by omega
    have ga := hK.1
    rw [s19_47]
    simp only [s19_0, s19_1, s19_2, s19_5, s19_8, s19_9, s19_10, s19_11, s19_12, s19_13, s19_16, s19_17, s19_18, s19_19, s19_22, s19_23, s19_26, s19_29, s19_30, s19_31, s19_33, s19_34, s19_37, s19_40, s19_41, s19_42, s19_44, s19_45, s19_49, s19_50, s19_53, s19_56, s19_57, s19_60, s19_62, s19_63, s19_65, s19_67, s19_69, s19_72, s19_73, s19_76, s19_80, s19_83, s19_84, s19_86, s19_87, s19_90, s19_91, s19_94, s19_97, s19_98, s19_99, s19_101, s19_103, s19_106, s19_107, s19_108, s19_109, s19_112, s19_113, s19_114, is_O, opt_s, opt_n, cat_0, cat_i, cat_r, true_and, Nat.zero_le, Nat.reduceAdd, Nat.reduceLeDiff, al_I, as_I, rl_R, ln_I, ln_R, nI_add, pk_mul, g_set, set_set, not_false_eq_true, gf0_0, gf0_1, gf0_2, gf1_0, gf1_1, gf1_2, gf1_3, gf1_4, gf1_5, gf1_6, gf1_7, gf1_8, gf1_9, gf1_10, gf1_11, gf2_0, gf2_1, gf2_2, gf3_0, gf3_1, gf4_0, gf4_1, gf4_2, gf5_0, gf5_1, gf5_2, gf5_3, gf6_0, gf6_1, gf6_2, gf6_3, gf6_4, gf6_5, gf6_6, gf7_0, gf7_1, gf7_2, gf7_3, gf7_4, gf7_5, pf0_0, pf0_1, pf0_2, pf1_0, pf1_1, pf1_2, pf1_3, pf1_4, pf1_5, pf1_6, pf1_7, pf1_8, pf1_9, pf1_10, pf1_11, pf2_0, pf2_1, pf2_2, pf3_0, pf3_1, pf4_0, pf4_1, pf4_2, pf5_0, pf5_1, pf5_2, pf5_3, pf6_0, pf6_1, pf6_2, pf6_3, pf6_4, pf6_5, pf6_6, pf7_0, pf7_1, pf7_2, pf7_3, pf7_4, pf7_5, ga]
    rw [if_pos ((nI_l1 (by omega) (by omega)).mpr (by omega))]
    exact hX H f hH hK gf hf
  | succ m ih =>
    intro t H f hm hH hK gf hf
    have ga := hK.1
    have gu : ex_g H u = some (cI (2 * v) fu) := (hH.2.2 u (by omega)).trans hu
    have gl : ex_g H l = some (cI (2 * v) fl) := (hH.2.2 l (by omega)).trans hl
    rw [s19_47]
    simp only [s19_0, s19_1, s19_2, s19_5, s19_8, s19_9, s19_10, s19_11, s19_12, s19_13, s19_16, s19_17, s19_18, s19_19, s19_22, s19_23, s19_26, s19_29, s19_30, s19_31, s19_33, s19_34, s19_37, s19_40, s19_41, s19_42, s19_44, s19_45, s19_49, s19_50, s19_53, s19_56, s19_57, s19_60, s19_62, s19_63, s19_65, s19_67, s19_69, s19_72, s19_73, s19_76, s19_80, s19_83, s19_84, s19_86, s19_87, s19_90, s19_91, s19_94, s19_97, s19_98, s19_99, s19_101, s19_103, s19_106, s19_107, s19_108, s19_109, s19_112, s19_113, s19_114, is_O, opt_s, opt_n, cat_0, cat_i, cat_r, true_and, Nat.zero_le, Nat.reduceAdd, Nat.reduceLeDiff, al_I, as_I, rl_R, ln_I, ln_R, nI_add, pk_mul, g_set, set_set, not_false_eq_true, gf0_0, gf0_1, gf0_2, gf1_0, gf1_1, gf1_2, gf1_3, gf1_4, gf1_5, gf1_6, gf1_7, gf1_8, gf1_9, gf1_10, gf1_11, gf2_0, gf2_1, gf2_2, gf3_0, gf3_1, gf4_0, gf4_1, gf4_2, gf5_0, gf5_1, gf5_2, gf5_3, gf6_0, gf6_1, gf6_2, gf6_3, gf6_4, gf6_5, gf6_6, gf7_0, gf7_1, gf7_2, gf7_3, gf7_4, gf7_5, pf0_0, pf0_1, pf0_2, pf1_0, pf1_1, pf1_2, pf1_3, pf1_4, pf1_5, pf1_6, pf1_7, pf1_8, pf1_9, pf1_10, pf1_11, pf2_0, pf2_1, pf2_2, pf3_0, pf3_1, pf4_0, pf4_1, pf4_2, pf5_0, pf5_1, pf5_2, pf5_3, pf6_0, pf6_1, pf6_2, pf6_3, pf6_4, pf6_5, pf6_6, pf7_0, pf7_1, pf7_2, pf7_3, pf7_4, pf7_5, ga]
    rw [if_neg (fun z => absurd ((nI_l1 (by omega) (by omega)).mp z) (by omega))]
    refine m_far h1 h2 hx hy (by omega) ga gu gl hfu hfl ?_
    simp only [s19_0, s19_1, s19_2, s19_5, s19_8, s19_9, s19_10, s19_11, s19_12, s19_13, s19_16, s19_17, s19_18, s19_19, s19_22, s19_23, s19_26, s19_29, s19_30, s19_31, s19_33, s19_34, s19_37, s19_40, s19_41, s19_42, s19_44, s19_45, s19_49, s19_50, s19_53, s19_56, s19_57, s19_60, s19_62, s19_63, s19_65, s19_67, s19_69, s19_72, s19_73, s19_76, s19_80, s19_83, s19_84, s19_86, s19_87, s19_90, s19_91, s19_94, s19_97, s19_98, s19_99, s19_101, s19_103, s19_106, s19_107, s19_108, s19_109, s19_112, s19_113, s19_114, is_O, opt_s, opt_n, cat_0, cat_i, cat_r, true_and, Nat.zero_le, Nat.reduceAdd, Nat.reduceLeDiff, al_I, as_I, rl_R, ln_I, ln_R, nI_add, pk_mul, g_set, set_set, not_false_eq_true, gf0_0, gf0_1, gf0_2, gf1_0, gf1_1, gf1_2, gf1_3, gf1_4, gf1_5, gf1_6, gf1_7, gf1_8, gf1_9, gf1_10, gf1_11, gf2_0, gf2_1, gf2_2, gf3_0, gf3_1, gf4_0, gf4_1, gf4_2, gf5_0, gf5_1, gf5_2, gf5_3, gf6_0, gf6_1, gf6_2, gf6_3, gf6_4, gf6_5, gf6_6, gf7_0, gf7_1, gf7_2, gf7_3, gf7_4, gf7_5, pf0_0, pf0_1, pf0_2, pf1_0, pf1_1, pf1_2, pf1_3, pf1_4, pf1_5, pf1_6, pf1_7, pf1_8, pf1_9, pf1_10, pf1_11, pf2_0, pf2_1, pf2_2, pf3_0, pf3_1, pf4_0, pf4_1, pf4_2, pf5_0, pf5_1, pf5_2, pf5_3, pf6_0, pf6_1, pf6_2, pf6_3, pf6_4, pf6_5, pf6_6, pf7_0, pf7_1, pf7_2, pf7_3, pf7_4, pf7_5, gf, xi_n (show t < 2 * v by omega) (show 2 * v < 2147483648 by omega)]
    have hc2 : chD v a h (ex_set H (a + eO v) (cI (2 * v) (upd f t (nI (tR v (tP v x y) t))))) := hH.set (by omega)
    obtain ⟨k1, k2, ⟨fs, k3, k4⟩, _, ⟨f1, k5⟩, f2, k6⟩ := hK
    refine ih (t + 1) _ _ (by omega) hc2 (DK.ch h1 h2 hD hc2 ⟨fs, ?_, k4⟩ ⟨_, g_set⟩ ⟨f1, ?_⟩ ⟨f2, ?_⟩) g_set (fun j hj => ?_)
    · rw [g_ne (by omega)]; exact k3
    · rw [g_ne (by omega)]; exact k5
    · rw [g_ne (by omega)]; exact k6
    · by_cases hc : j = t
      · rw [hc, pk_us]
      · rw [pk_un hc]
        exact hf j (by omega)
theorem m_packed (h1 : 1 ≤ v) (h2 : v ≤ 5) (hx : x < tC v) (hy : y < tC v) (hD : DK v a c3 c4 c6 c7 c8 h) (hX : ∀ H, chD v a h H → DK v a c3 c4 c6 c7 c8 H → X (some (.int (nI (8 * tP v x y + tQ v x y)))) H) : ex_W 19 0 [.ref a, .int (nI x), .int (nI y), oU, oU, oU, oU] [] h X := by
  have hC := tC_le h1 h2
  obtain ⟨_, l1, l2⟩ := cLd h1 h2
  have hkl := key_lt hx hy
  have hCC : tC v * tC v ≤ 42 * 42 := Nat.mul_le_mul hC.2 hC.2
  have hP := tP_lt h1 h2 hx hy
  obtain ⟨fc, w', t1, t2, t3, t4⟩ := hD.txt h1 h2
  obtain ⟨fx, rx1, rx2⟩ := hD.row h1 h2 hx
  obtain ⟨fy, ry1, ry2⟩ := hD.row h1 h2 hy
  have ga := hD.1
  obtain ⟨fs, s1, s2⟩ := hD.2.2.1
  simp only [s19_0, s19_1, s19_2, s19_5, s19_8, s19_9, s19_10, s19_11, s19_12, s19_13, s19_16, s19_17, s19_18, s19_19, s19_22, s19_23, s19_26, s19_29, s19_30, s19_31, s19_33, s19_34, s19_37, s19_40, s19_41, s19_42, s19_44, s19_45, s19_49, s19_50, s19_53, s19_56, s19_57, s19_60, s19_62, s19_63, s19_65, s19_67, s19_69, s19_72, s19_73, s19_76, s19_80, s19_83, s19_84, s19_86, s19_87, s19_90, s19_91, s19_94, s19_97, s19_98, s19_99, s19_101, s19_103, s19_106, s19_107, s19_109, s19_112, s19_113, s19_114, is_O, opt_s, opt_n, cat_0, cat_i, cat_r, true_and, Nat.zero_le, Nat.reduceAdd, Nat.reduceLeDiff, al_I, as_I, rl_R, ln_I, ln_R, nI_add, pk_mul, g_set, set_set, not_false_eq_true, gf0_0, gf0_1, gf0_2, gf1_0, gf1_1, gf1_2, gf1_3, gf1_4, gf1_5, gf1_6, gf1_7, gf1_8, gf1_9, gf1_10, gf1_11, gf2_0, gf2_1, gf2_2, gf3_0, gf3_1, gf4_0, gf4_1, gf4_2, gf5_0, gf5_1, gf5_2, gf5_3, gf6_0, gf6_1, gf6_2, gf6_3, gf6_4, gf6_5, gf6_6, gf7_0, gf7_1, gf7_2, gf7_3, gf7_4, gf7_5, pf0_0, pf0_1, pf0_2, pf1_0, pf1_1, pf1_2, pf1_3, pf1_4, pf1_5, pf1_6, pf1_7, pf1_8, pf1_9, pf1_10, pf1_11, pf2_0, pf2_1, pf2_2, pf3_0, pf3_1, pf4_0, pf4_1, pf4_2, pf5_0, pf5_1, pf5_2, pf5_3, pf6_0, pf6_1, pf6_2, pf6_3, pf6_4, pf6_5, pf6_6, pf7_0, pf7_1, pf7_2, pf7_3, pf7_4, pf7_5, ga, t1, t4, s1, xi_n hkl (show tC v * tC v < 2147483648 by omega), xi_n hx (show tC v < 2147483648 by omega), xi_n hy (show tC v < 2147483648 by omega), if_pos hx, if_pos hy, va_rf]
  rcases s2 x hx y hy with e | e
  · rw [e, if_neg (fun z => z rfl)]
    obtain ⟨f0, g0⟩ := hD.2.2.2.1
    refine l_pk47 h1 h2 hx hy hD rx1 ry1 (by omega) (by omega) rx2 ry2 (fun H f hH hK gf hf => ?_) (2 * v) 0 h f0 (by omega) chD.rfl' hD g0 (fun j hj => by omega)
    obtain ⟨fc', w2, u1, u2, u3, u4⟩ := hK.txt h1 h2
    have ga2 := hK.1
    simp only [s19_0, s19_1, s19_2, s19_5, s19_8, s19_9, s19_10, s19_11, s19_12, s19_13, s19_16, s19_17, s19_18, s19_19, s19_22, s19_23, s19_26, s19_29, s19_30, s19_31, s19_33, s19_34, s19_37, s19_40, s19_41, s19_42, s19_44, s19_45, s19_49, s19_50, s19_53, s19_56, s19_57, s19_60, s19_62, s19_63, s19_65, s19_67, s19_69, s19_72, s19_73, s19_76, s19_79, s19_80, s19_83, s19_84, s19_86, s19_87, s19_90, s19_91, s19_94, s19_97, s19_98, s19_99, s19_101, s19_103, s19_106, s19_107, s19_109, s19_112, s19_113, s19_114, is_O, opt_s, opt_n, cat_0, cat_i, cat_r, true_and, Nat.zero_le, Nat.reduceAdd, Nat.reduceLeDiff, al_I, as_I, rl_R, ln_I, ln_R, nI_add, pk_mul, g_set, set_set, not_false_eq_true, gf0_0, gf0_1, gf0_2, gf1_0, gf1_1, gf1_2, gf1_3, gf1_4, gf1_5, gf1_6, gf1_7, gf1_8, gf1_9, gf1_10, gf1_11, gf2_0, gf2_1, gf2_2, gf3_0, gf3_1, gf4_0, gf4_1, gf4_2, gf5_0, gf5_1, gf5_2, gf5_3, gf6_0, gf6_1, gf6_2, gf6_3, gf6_4, gf6_5, gf6_6, gf7_0, gf7_1, gf7_2, gf7_3, gf7_4, gf7_5, pf0_0, pf0_1, pf0_2, pf1_0, pf1_1, pf1_2, pf1_3, pf1_4, pf1_5, pf1_6, pf1_7, pf1_8, pf1_9, pf1_10, pf1_11, pf2_0, pf2_1, pf2_2, pf3_0, pf3_1, pf4_0, pf4_1, pf4_2, pf5_0, pf5_1, pf5_2, pf5_3, pf6_0, pf6_1, pf6_2, pf6_3, pf6_4, pf6_5, pf6_6, pf7_0, pf7_1, pf7_2, pf7_3, pf7_4, pf7_5, ga2, u1]
    refine m_findRow h1 h2 hP.1 u1 u2 u3 gf hf ?_
    simp only [s19_0, s19_1, s19_2, s19_5, s19_8, s19_9, s19_10, s19_11, s19_12, s19_13, s19_16, s19_17, s19_18, s19_19, s19_22, s19_23, s19_26, s19_29, s19_30, s19_31, s19_33, s19_34, s19_37, s19_40, s19_41, s19_42, s19_44, s19_45, s19_49, s19_50, s19_53, s19_56, s19_57, s19_60, s19_62, s19_63, s19_65, s19_67, s19_69, s19_72, s19_73, s19_76, s19_79, s19_80, s19_83, s19_84, s19_86, s19_87, s19_90, s19_91, s19_94, s19_97, s19_98, s19_99, s19_101, s19_103, s19_106, s19_107, s19_109, s19_112, s19_113, s19_114, is_O, opt_s, opt_n, cat_0, cat_i, cat_r, true_and, Nat.zero_le, Nat.reduceAdd, Nat.reduceLeDiff, al_I, as_I, rl_R, ln_I, ln_R, nI_add, pk_mul, g_set, set_set, not_false_eq_true, gf0_0, gf0_1, gf0_2, gf1_0, gf1_1, gf1_2, gf1_3, gf1_4, gf1_5, gf1_6, gf1_7, gf1_8, gf1_9, gf1_10, gf1_11, gf2_0, gf2_1, gf2_2, gf3_0, gf3_1, gf4_0, gf4_1, gf4_2, gf5_0, gf5_1, gf5_2, gf5_3, gf6_0, gf6_1, gf6_2, gf6_3, gf6_4, gf6_5, gf6_6, gf7_0, gf7_1, gf7_2, gf7_3, gf7_4, gf7_5, pf0_0, pf0_1, pf0_2, pf1_0, pf1_1, pf1_2, pf1_3, pf1_4, pf1_5, pf1_6, pf1_7, pf1_8, pf1_9, pf1_10, pf1_11, pf2_0, pf2_1, pf2_2, pf3_0, pf3_1, pf4_0, pf4_1, pf4_2, pf5_0, pf5_1, pf5_2, pf5_3, pf6_0, pf6_1, pf6_2, pf6_3, pf6_4, pf6_5, pf6_6, pf7_0, pf7_1, pf7_2, pf7_3, pf7_4, pf7_5, ga2, s21_0, s21_1]
    obtain ⟨f1, k1⟩ := hK.2.2.2.2.1
    obtain ⟨f2, k2⟩ := hK.2.2.2.2.2
    refine m_between h1 h2 hx hy hK ((hH.2.2 _ (by omega)).trans rx1) ((hH.2.2 _ (by omega)).trans ry1) (by omega) (by omega) rx2 ry2 (fun G hG hKG => ?_) v 0 _ H f1 f2 (by omega) chD.rfl' hK k1 k2 (fun j hj => by omega)
    obtain ⟨p1, p2, ⟨fs', p3, p4⟩, ⟨f3, p5⟩, ⟨f4, p6⟩, f5, p7⟩ := hKG
    have ne : ¬ a = a + eO v + 3 := by omega
    simp only [s19_0, s19_1, s19_2, s19_5, s19_8, s19_9, s19_10, s19_11, s19_12, s19_13, s19_16, s19_17, s19_18, s19_19, s19_22, s19_23, s19_26, s19_29, s19_30, s19_31, s19_33, s19_34, s19_37, s19_40, s19_41, s19_42, s19_44, s19_45, s19_49, s19_50, s19_53, s19_56, s19_57, s19_60, s19_62, s19_63, s19_65, s19_67, s19_69, s19_72, s19_73, s19_76, s19_79, s19_80, s19_83, s19_84, s19_86, s19_87, s19_90, s19_91, s19_94, s19_97, s19_98, s19_99, s19_101, s19_103, s19_106, s19_107, s19_108, s19_109, s19_112, s19_113, s19_114, is_O, opt_s, opt_n, cat_0, cat_i, cat_r, true_and, Nat.zero_le, Nat.reduceAdd, Nat.reduceLeDiff, al_I, as_I, rl_R, ln_I, ln_R, nI_add, pk_mul, g_set, set_set, not_false_eq_true, gf0_0, gf0_1, gf0_2, gf1_0, gf1_1, gf1_2, gf1_3, gf1_4, gf1_5, gf1_6, gf1_7, gf1_8, gf1_9, gf1_10, gf1_11, gf2_0, gf2_1, gf2_2, gf3_0, gf3_1, gf4_0, gf4_1, gf4_2, gf5_0, gf5_1, gf5_2, gf5_3, gf6_0, gf6_1, gf6_2, gf6_3, gf6_4, gf6_5, gf6_6, gf7_0, gf7_1, gf7_2, gf7_3, gf7_4, gf7_5, pf0_0, pf0_1, pf0_2, pf1_0, pf1_1, pf1_2, pf1_3, pf1_4, pf1_5, pf1_6, pf1_7, pf1_8, pf1_9, pf1_10, pf1_11, pf2_0, pf2_1, pf2_2, pf3_0, pf3_1, pf4_0, pf4_1, pf4_2, pf5_0, pf5_1, pf5_2, pf5_3, pf6_0, pf6_1, pf6_2, pf6_3, pf6_4, pf6_5, pf6_6, pf7_0, pf7_1, pf7_2, pf7_3, pf7_4, pf7_5, p3, xi_n hkl (show tC v * tC v < 2147483648 by omega), g_ne ne, p1, pk_us]
    have hc2 : chD v a h (ex_set G (a + eO v + 3) (cI (tC v * tC v) (upd fs' (x * tC v + y) (nI (8 * tP v x y + tQ v x y))))) := (hH.trans hG).set (by omega)
    refine hX _ hc2 (DK.ch h1 h2 hD hc2 ⟨_, g_set, fun x2 hx2 y2 hy2 => ?_⟩ ⟨f3, ?_⟩ ⟨f4, ?_⟩ ⟨f5, ?_⟩)
    · by_cases hc : x2 * tC v + y2 = x * tC v + y
      · obtain ⟨rfl, rfl⟩ := key_inj hy2 hy hc
        rw [pk_us]
        exact Or.inr rfl
      · rw [pk_un hc]
        exact p4 x2 hx2 y2 hy2
    · rw [g_ne (by omega)]; exact p5
    · rw [g_ne (by omega)]; exact p6
    · rw [g_ne (by omega)]; exact p7
  · rw [e, if_pos (m1_ne (by omega))]
    simp only [s19_0, s19_1, s19_2, s19_5, s19_8, s19_9, s19_10, s19_11, s19_12, s19_13, s19_16, s19_17, s19_18, s19_19, s19_22, s19_23, s19_26, s19_29, s19_30, s19_31, s19_33, s19_34, s19_37, s19_40, s19_41, s19_42, s19_44, s19_45, s19_49, s19_50, s19_53, s19_56, s19_57, s19_60, s19_62, s19_63, s19_65, s19_67, s19_69, s19_72, s19_73, s19_76, s19_79, s19_80, s19_83, s19_84, s19_86, s19_87, s19_90, s19_91, s19_94, s19_97, s19_98, s19_99, s19_101, s19_103, s19_106, s19_107, s19_108, s19_109, s19_112, s19_113, s19_114, is_O, opt_s, opt_n, cat_0, cat_i, cat_r, true_and, Nat.zero_le, Nat.reduceAdd, Nat.reduceLeDiff, al_I, as_I, rl_R, ln_I, ln_R, nI_add, pk_mul, g_set, set_set, not_false_eq_true, gf0_0, gf0_1, gf0_2, gf1_0, gf1_1, gf1_2, gf1_3, gf1_4, gf1_5, gf1_6, gf1_7, gf1_8, gf1_9, gf1_10, gf1_11, gf2_0, gf2_1, gf2_2, gf3_0, gf3_1, gf4_0, gf4_1, gf4_2, gf5_0, gf5_1, gf5_2, gf5_3, gf6_0, gf6_1, gf6_2, gf6_3, gf6_4, gf6_5, gf6_6, gf7_0, gf7_1, gf7_2, gf7_3, gf7_4, gf7_5, pf0_0, pf0_1, pf0_2, pf1_0, pf1_1, pf1_2, pf1_3, pf1_4, pf1_5, pf1_6, pf1_7, pf1_8, pf1_9, pf1_10, pf1_11, pf2_0, pf2_1, pf2_2, pf3_0, pf3_1, pf4_0, pf4_1, pf4_2, pf5_0, pf5_1, pf5_2, pf5_3, pf6_0, pf6_1, pf6_2, pf6_3, pf6_4, pf6_5, pf6_6, pf7_0, pf7_1, pf7_2, pf7_3, pf7_4, pf7_5, ga, s1, xi_n hkl (show tC v * tC v < 2147483648 by omega), e]
    exact hX h chD.rfl' hD
theorem z8 : (nI 8 = 0) = False := eq_false (by decide)
theorem m_stackD (h1 : 1 ≤ v) (h2 : v ≤ 5) (hx : x < tC v) (hy : y < tC v) (hD : DK v a c3 c4 c6 c7 c8 h) (hX : ∀ H, chD v a h H → DK v a c3 c4 c6 c7 c8 H → X (some (.int (nI (tP v x y)))) H) : ex_W 17 0 [.ref a, .int (nI x), .int (nI y)] [] h X := by
  have hC := tC_le h1 h2
  have hP := tP_lt h1 h2 hx hy
  simp only [s17_0, s17_1, s17_2, s17_3, s17_6, s17_8, s17_9, is_O, opt_s, opt_n, cat_0, cat_i, cat_r, true_and, Nat.zero_le, Nat.reduceAdd, Nat.reduceLeDiff, al_I, as_I, rl_R, ln_I, ln_R, nI_add, pk_mul, g_set, set_set, not_false_eq_true, gf0_0, gf0_1, gf0_2, gf1_0, gf1_1, gf1_2, gf1_3, gf1_4, gf1_5, gf1_6, gf1_7, gf1_8, gf1_9, gf1_10, gf1_11, gf2_0, gf2_1, gf2_2, gf3_0, gf3_1, gf4_0, gf4_1, gf4_2, gf5_0, gf5_1, gf5_2, gf5_3, gf6_0, gf6_1, gf6_2, gf6_3, gf6_4, gf6_5, gf6_6, gf7_0, gf7_1, gf7_2, gf7_3, gf7_4, gf7_5, pf0_0, pf0_1, pf0_2, pf1_0, pf1_1, pf1_2, pf1_3, pf1_4, pf1_5, pf1_6, pf1_7, pf1_8, pf1_9, pf1_10, pf1_11, pf2_0, pf2_1, pf2_2, pf3_0, pf3_1, pf4_0, pf4_1, pf4_2, pf5_0, pf5_1, pf5_2, pf5_3, pf6_0, pf6_1, pf6_2, pf6_3, pf6_4, pf6_5, pf6_6, pf7_0, pf7_1, pf7_2, pf7_3, pf7_4, pf7_5, hD.1]
  refine m_packed h1 h2 hx hy hD (fun H hH hK => ?_)
  have e : nI (8 * tP v x y + tQ v x y) / nI 8 = nI (tP v x y) := by rw [pk_div (by have e : (2:Nat)^31 = 2147483648 := rfl; omega) (by decide) (by decide), show (8 * tP v x y + tQ v x y) / 8 = tP v x y by omega]
  simp only [s17_0, s17_1, s17_2, s17_3, s17_6, s17_8, s17_9, is_O, opt_s, opt_n, cat_0, cat_i, cat_r, true_and, Nat.zero_le, Nat.reduceAdd, Nat.reduceLeDiff, al_I, as_I, rl_R, ln_I, ln_R, nI_add, pk_mul, g_set, set_set, not_false_eq_true, gf0_0, gf0_1, gf0_2, gf1_0, gf1_1, gf1_2, gf1_3, gf1_4, gf1_5, gf1_6, gf1_7, gf1_8, gf1_9, gf1_10, gf1_11, gf2_0, gf2_1, gf2_2, gf3_0, gf3_1, gf4_0, gf4_1, gf4_2, gf5_0, gf5_1, gf5_2, gf5_3, gf6_0, gf6_1, gf6_2, gf6_3, gf6_4, gf6_5, gf6_6, gf7_0, gf7_1, gf7_2, gf7_3, gf7_4, gf7_5, pf0_0, pf0_1, pf0_2, pf1_0, pf1_1, pf1_2, pf1_3, pf1_4, pf1_5, pf1_6, pf1_7, pf1_8, pf1_9, pf1_10, pf1_11, pf2_0, pf2_1, pf2_2, pf3_0, pf3_1, pf4_0, pf4_1, pf4_2, pf5_0, pf5_1, pf5_2, pf5_3, pf6_0, pf6_1, pf6_2, pf6_3, pf6_4, pf6_5, pf6_6, pf7_0, pf7_1, pf7_2, pf7_3, pf7_4, pf7_5, z8, e]
  exact hX H hH hK
theorem m_stackL (h1 : 1 ≤ v) (h2 : v ≤ 5) (hx : x < tC v) (hy : y < tC v) (hD : DK v a c3 c4 c6 c7 c8 h) (hX : ∀ H, chD v a h H → DK v a c3 c4 c6 c7 c8 H → X (some (.int (nI (tQ v x y)))) H) : ex_W 18 0 [.ref a, .int (nI x), .int (nI y)] [] h X := by
  have hC := tC_le h1 h2
  have hP := tP_lt h1 h2 hx hy
  simp only [s18_0, s18_1, s18_2, s18_3, s18_6, s18_8, s18_9, is_O, opt_s, opt_n, cat_0, cat_i, cat_r, true_and, Nat.zero_le, Nat.reduceAdd, Nat.reduceLeDiff, al_I, as_I, rl_R, ln_I, ln_R, nI_add, pk_mul, g_set, set_set, not_false_eq_true, gf0_0, gf0_1, gf0_2, gf1_0, gf1_1, gf1_2, gf1_3, gf1_4, gf1_5, gf1_6, gf1_7, gf1_8, gf1_9, gf1_10, gf1_11, gf2_0, gf2_1, gf2_2, gf3_0, gf3_1, gf4_0, gf4_1, gf4_2, gf5_0, gf5_1, gf5_2, gf5_3, gf6_0, gf6_1, gf6_2, gf6_3, gf6_4, gf6_5, gf6_6, gf7_0, gf7_1, gf7_2, gf7_3, gf7_4, gf7_5, pf0_0, pf0_1, pf0_2, pf1_0, pf1_1, pf1_2, pf1_3, pf1_4, pf1_5, pf1_6, pf1_7, pf1_8, pf1_9, pf1_10, pf1_11, pf2_0, pf2_1, pf2_2, pf3_0, pf3_1, pf4_0, pf4_1, pf4_2, pf5_0, pf5_1, pf5_2, pf5_3, pf6_0, pf6_1, pf6_2, pf6_3, pf6_4, pf6_5, pf6_6, pf7_0, pf7_1, pf7_2, pf7_3, pf7_4, pf7_5, hD.1]
  refine m_packed h1 h2 hx hy hD (fun H hH hK => ?_)
  have e : nI (8 * tP v x y + tQ v x y) - nI (8 * tP v x y + tQ v x y) / nI 8 * nI 8 = nI (tQ v x y) := by rw [pk_rem (by have e : (2:Nat)^31 = 2147483648 := rfl; omega) (by decide) (by decide), show (8 * tP v x y + tQ v x y) % 8 = tQ v x y by omega]
  simp only [s18_0, s18_1, s18_2, s18_3, s18_6, s18_8, s18_9, opt_s, z8, not_false_eq_true, true_and, e]
  exact hX H hH hK
theorem l_tun (h1 : 1 ≤ v) (h2 : v ≤ 5) (hd : d < tC v) (hD : DK v a c3 c4 c6 c7 c8 h) (hX : ∀ H, chD v a h H → DK v a c3 c4 c6 c7 c8 H → X (some (.int (nI (tTu v d)))) H) : ∀ (m t : Nat) (H : ex_Hp) (f : Nat → Int32), m + t = 2 * v → chD v a h H → DK v a c3 c4 c6 c7 c8 H → ex_g H (a + eO v) = some (cI (2 * v) f) → (∀ j, j < 2 * v → 2 * v ≤ t + j → f j = nI (tR v (tTu v d) j)) → ex_W 16 2 [.ref a, .int (nI d), .int (nI t)] [] H X := by
  have hC := tC_le h1 h2
  obtain ⟨_, l1, l2⟩ := cLd h1 h2
  intro m
  induction m with
  | zero =>
    intro t H f hm hH hK gf hf
    have ga := hK.1
    obtain ⟨fc', w2, u1, u2, u3, u4⟩ := hK.txt h1 h2
    rw [s16_2]
    simp only [s16_0, s16_1, s16_3, s16_4, s16_7, s16_10, s16_11, s16_14, s16_15, s16_16, s16_19, s16_20, s16_21, s16_24, s16_27, s16_28, s16_29, s16_30, s16_31, s16_34, s16_35, s16_38, s16_41, s16_42, s16_45, s16_46, s16_49, s16_52, is_O, opt_s, opt_n, cat_0, cat_i, cat_r, true_and, Nat.zero_le, Nat.reduceAdd, Nat.reduceLeDiff, al_I, as_I, rl_R, ln_I, ln_R, nI_add, pk_mul, g_set, set_set, not_false_eq_true, gf0_0, gf0_1, gf0_2, gf1_0, gf1_1, gf1_2, gf1_3, gf1_4, gf1_5, gf1_6, gf1_7, gf1_8, gf1_9, gf1_10, gf1_11, gf2_0, gf2_1, gf2_2, gf3_0, gf3_1, gf4_0, gf4_1, gf4_2, gf5_0, gf5_1, gf5_2, gf5_3, gf6_0, gf6_1, gf6_2, gf6_3, gf6_4, gf6_5, gf6_6, gf7_0, gf7_1, gf7_2, gf7_3, gf7_4, gf7_5, pf0_0, pf0_1, pf0_2, pf1_0, pf1_1, pf1_2, pf1_3, pf1_4, pf1_5, pf1_6, pf1_7, pf1_8, pf1_9, pf1_10, pf1_11, pf2_0, pf2_1, pf2_2, pf3_0, pf3_1, pf4_0, pf4_1, pf4_2, pf5_0, pf5_1, pf5_2, pf5_3, pf6_0, pf6_1, pf6_2, pf6_3, pf6_4, pf6_5, pf6_6, pf7_0, pf7_1, pf7_2, pf7_3, pf7_4, pf7_5, ga, u1]
    rw [if_pos ((nI_l1 (by omega) (by omega)).mpr (by omega))]
    refine m_findRow h1 h2 (tTu_lt h1 h2 hd).1 u1 u2 u3 gf (fun j hj => hf j hj (by omega)) ?_
    simp only [s16_0, s16_1, s16_3, s16_4, s16_7, s16_10, s16_11, s16_14, s16_15, s16_16, s16_19, s16_20, s16_21, s16_24, s16_27, s16_28, s16_29, s16_30, s16_31, s16_34, s16_35, s16_38, s16_41, s16_42, s16_45, s16_46, s16_49, s16_52, is_O, opt_s, opt_n, cat_0, cat_i, cat_r, true_and, Nat.zero_le, Nat.reduceAdd, Nat.reduceLeDiff, al_I, as_I, rl_R, ln_I, ln_R, nI_add, pk_mul, g_set, set_set, not_false_eq_true, gf0_0, gf0_1, gf0_2, gf1_0, gf1_1, gf1_2, gf1_3, gf1_4, gf1_5, gf1_6, gf1_7, gf1_8, gf1_9, gf1_10, gf1_11, gf2_0, gf2_1, gf2_2, gf3_0, gf3_1, gf4_0, gf4_1, gf4_2, gf5_0, gf5_1, gf5_2, gf5_3, gf6_0, gf6_1, gf6_2, gf6_3, gf6_4, gf6_5, gf6_6, gf7_0, gf7_1, gf7_2, gf7_3, gf7_4, gf7_5, pf0_0, pf0_1, pf0_2, pf1_0, pf1_1, pf1_2, pf1_3, pf1_4, pf1_5, pf1_6, pf1_7, pf1_8, pf1_9, pf1_10, pf1_11, pf2_0, pf2_1, pf2_2, pf3_0, pf3_1, pf4_0, pf4_1, pf4_2, pf5_0, pf5_1, pf5_2, pf5_3, pf6_0, pf6_1, pf6_2, pf6_3, pf6_4, pf6_5, pf6_6, pf7_0, pf7_1, pf7_2, pf7_3, pf7_4, pf7_5]
    exact hX H hH hK
  | succ m ih =>
    intro t H f hm hH hK gf hf
    have ht : t < 2 * v := by omega
    have ga := hK.1
    obtain ⟨fc', w2, u1, u2, u3, u4⟩ := hK.txt h1 h2
    obtain ⟨fx, rx1, rx2⟩ := hK.row h1 h2 hd
    have hr := tR_lt h1 h2 hd ht
    have e1 : nI (2 * v) - nI 1 - nI t = nI (2 * v - 1 - t) := by rw [pk_sub (by omega), pk_sub (by omega)]
    have e2 : nI (2 * v) - nI 1 - nI (tR v d t) = nI (2 * v - 1 - tR v d t) := by rw [pk_sub (by omega), pk_sub (by omega)]
    have e3 := (tOf h1 h2 hd).2.2 (2 * v - 1 - t) (by omega)
    rw [show 2 * v - 1 - (2 * v - 1 - t) = t by omega] at e3
    rw [s16_2]
    simp only [s16_0, s16_1, s16_3, s16_4, s16_7, s16_10, s16_11, s16_14, s16_15, s16_16, s16_19, s16_20, s16_21, s16_24, s16_27, s16_28, s16_29, s16_30, s16_31, s16_34, s16_35, s16_38, s16_41, s16_42, s16_45, s16_46, s16_49, s16_52, is_O, opt_s, opt_n, cat_0, cat_i, cat_r, true_and, Nat.zero_le, Nat.reduceAdd, Nat.reduceLeDiff, al_I, as_I, rl_R, ln_I, ln_R, nI_add, pk_mul, g_set, set_set, not_false_eq_true, gf0_0, gf0_1, gf0_2, gf1_0, gf1_1, gf1_2, gf1_3, gf1_4, gf1_5, gf1_6, gf1_7, gf1_8, gf1_9, gf1_10, gf1_11, gf2_0, gf2_1, gf2_2, gf3_0, gf3_1, gf4_0, gf4_1, gf4_2, gf5_0, gf5_1, gf5_2, gf5_3, gf6_0, gf6_1, gf6_2, gf6_3, gf6_4, gf6_5, gf6_6, gf7_0, gf7_1, gf7_2, gf7_3, gf7_4, gf7_5, pf0_0, pf0_1, pf0_2, pf1_0, pf1_1, pf1_2, pf1_3, pf1_4, pf1_5, pf1_6, pf1_7, pf1_8, pf1_9, pf1_10, pf1_11, pf2_0, pf2_1, pf2_2, pf3_0, pf3_1, pf4_0, pf4_1, pf4_2, pf5_0, pf5_1, pf5_2, pf5_3, pf6_0, pf6_1, pf6_2, pf6_3, pf6_4, pf6_5, pf6_6, pf7_0, pf7_1, pf7_2, pf7_3, pf7_4, pf7_5, ga, u1, u4, m_opp ga, xi_n hd (show tC v < 2147483648 by omega), if_pos hd, va_rf, rx1, xi_n ht (show 2 * v < 2147483648 by omega), rx2 t ht, e1, e2, gf, xi_n (show 2 * v - 1 - t < 2 * v by omega) (show 2 * v < 2147483648 by omega), e3]
    rw [if_neg (fun z => absurd ((nI_l1 (by omega) (by omega)).mp z) (by omega))]
    have hc2 : chD v a h (ex_set H (a + eO v) (cI (2 * v) (upd f (2 * v - 1 - t) (nI (tR v (tTu v d) (2 * v - 1 - t)))))) := hH.set (by omega)
    obtain ⟨k1, k2, ⟨fs, k3, k4⟩, _, ⟨f1, k5⟩, f2, k6⟩ := hK
    refine ih (t + 1) _ _ (by omega) hc2 (DK.ch h1 h2 hD hc2 ⟨fs, ?_, k4⟩ ⟨_, g_set⟩ ⟨f1, ?_⟩ ⟨f2, ?_⟩) g_set (fun j hj hj2 => ?_)
    · rw [g_ne (by omega)]; exact k3
    · rw [g_ne (by omega)]; exact k5
    · rw [g_ne (by omega)]; exact k6
    · by_cases hc : j = 2 * v - 1 - t
      · rw [hc, pk_us]
      · rw [pk_un hc]
        exact hf j hj (by omega)
theorem m_turned (h1 : 1 ≤ v) (h2 : v ≤ 5) (hd : d < tC v) (hD : DK v a c3 c4 c6 c7 c8 h) (hX : ∀ H, chD v a h H → DK v a c3 c4 c6 c7 c8 H → X (some (.int (nI (tTu v d)))) H) : ex_W 16 0 [.ref a, .int (nI d), oU] [] h X := by
  obtain ⟨f, gf⟩ := hD.2.2.2.1
  rw [s16_0, s16_1]
  exact l_tun h1 h2 hd hD hX (2 * v) 0 h f (by omega) chD.rfl' hD gf (fun j hj hj2 => by omega)
theorem l_thr (h1 : 1 ≤ v) (h2 : v ≤ 5) (hd : d < tC v) (hD : DK v a c3 c4 c6 c7 c8 h) : ∀ (n p acc : Nat), n + p = v → X (some (.int (nI (thF v d n p acc)))) h → ex_W 14 4 [.ref a, .int (nI d), .int (nI acc), .int (nI p)] [] h X := by
  have hC := tC_le h1 h2
  have ga := hD.1
  obtain ⟨fc', w2, u1, u2, u3, u4⟩ := hD.txt h1 h2
  obtain ⟨fx, rx1, rx2⟩ := hD.row h1 h2 hd
  intro n
  induction n with
  | zero =>
    intro p acc hn hX
    rw [s14_4]
    simp only [s14_0, s14_1, s14_2, s14_3, s14_5, s14_6, s14_9, s14_12, s14_13, s14_16, s14_19, s14_20, s14_21, s14_22, s14_23, s14_24, s14_27, s14_30, s14_33, s14_36, s14_39, s14_40, is_O, opt_s, opt_n, cat_0, cat_i, cat_r, true_and, Nat.zero_le, Nat.reduceAdd, Nat.reduceLeDiff, al_I, as_I, rl_R, ln_I, ln_R, nI_add, pk_mul, g_set, set_set, not_false_eq_true, gf0_0, gf0_1, gf0_2, gf1_0, gf1_1, gf1_2, gf1_3, gf1_4, gf1_5, gf1_6, gf1_7, gf1_8, gf1_9, gf1_10, gf1_11, gf2_0, gf2_1, gf2_2, gf3_0, gf3_1, gf4_0, gf4_1, gf4_2, gf5_0, gf5_1, gf5_2, gf5_3, gf6_0, gf6_1, gf6_2, gf6_3, gf6_4, gf6_5, gf6_6, gf7_0, gf7_1, gf7_2, gf7_3, gf7_4, gf7_5, pf0_0, pf0_1, pf0_2, pf1_0, pf1_1, pf1_2, pf1_3, pf1_4, pf1_5, pf1_6, pf1_7, pf1_8, pf1_9, pf1_10, pf1_11, pf2_0, pf2_1, pf2_2, pf3_0, pf3_1, pf4_0, pf4_1, pf4_2, pf5_0, pf5_1, pf5_2, pf5_3, pf6_0, pf6_1, pf6_2, pf6_3, pf6_4, pf6_5, pf6_6, pf7_0, pf7_1, pf7_2, pf7_3, pf7_4, pf7_5, ga]
    rw [if_pos ((nI_l1 (by omega) (by omega)).mpr (by omega))]
    exact hX
  | succ n ih =>
    intro p acc hn hX
    rw [thF] at hX
    have hp : p < 2 * v := by omega
    have hr := tR_lt h1 h2 hd hp
    rw [s14_4]
    simp only [s14_0, s14_1, s14_2, s14_3, s14_5, s14_6, s14_9, s14_12, s14_13, s14_16, s14_19, s14_20, s14_21, s14_22, s14_23, s14_24, s14_27, s14_30, s14_33, s14_36, s14_39, s14_40, is_O, opt_s, opt_n, cat_0, cat_i, cat_r, true_and, Nat.zero_le, Nat.reduceAdd, Nat.reduceLeDiff, al_I, as_I, rl_R, ln_I, ln_R, nI_add, pk_mul, g_set, set_set, not_false_eq_true, gf0_0, gf0_1, gf0_2, gf1_0, gf1_1, gf1_2, gf1_3, gf1_4, gf1_5, gf1_6, gf1_7, gf1_8, gf1_9, gf1_10, gf1_11, gf2_0, gf2_1, gf2_2, gf3_0, gf3_1, gf4_0, gf4_1, gf4_2, gf5_0, gf5_1, gf5_2, gf5_3, gf6_0, gf6_1, gf6_2, gf6_3, gf6_4, gf6_5, gf6_6, gf7_0, gf7_1, gf7_2, gf7_3, gf7_4, gf7_5, pf0_0, pf0_1, pf0_2, pf1_0, pf1_1, pf1_2, pf1_3, pf1_4, pf1_5, pf1_6, pf1_7, pf1_8, pf1_9, pf1_10, pf1_11, pf2_0, pf2_1, pf2_2, pf3_0, pf3_1, pf4_0, pf4_1, pf4_2, pf5_0, pf5_1, pf5_2, pf5_3, pf6_0, pf6_1, pf6_2, pf6_3, pf6_4, pf6_5, pf6_6, pf7_0, pf7_1, pf7_2, pf7_3, pf7_4, pf7_5, ga, u1, u4, xi_n hd (show tC v < 2147483648 by omega), if_pos hd, va_rf, rx1, xi_n hp (show 2 * v < 2147483648 by omega), rx2 p hp]
    rw [if_neg (fun z => absurd ((nI_l1 (by omega) (by omega)).mp z) (by omega))]
    by_cases hc : v ≤ tR v d p
    · rw [if_pos hc] at hX
      rw [if_neg (fun z => absurd ((nI_l2 (by omega) (by omega)).mp z) (by omega))]
      exact ih (p + 1) _ (by omega) hX
    · rw [if_neg hc] at hX
      rw [if_pos ((nI_l2 (by omega) (by omega)).mpr (by omega))]
      exact ih (p + 1) _ (by omega) hX
theorem m_through (h1 : 1 ≤ v) (h2 : v ≤ 5) (hd : d < tC v) (hD : DK v a c3 c4 c6 c7 c8 h) (hX : X (some (.int (nI (tTh v d)))) h) : ex_W 14 0 [.ref a, .int (nI d), oU, oU] [] h X := by
  rw [s14_0, s14_1, s14_2, s14_3]
  refine l_thr h1 h2 hd hD v 0 0 (by omega) ?_
  rw [(tOf h1 h2 hd).1]
  exact hX
theorem m_closedD (h1 : 1 ≤ v) (h2 : v ≤ 5) (hd : d < tC v) (hD : DK v a c3 c4 c6 c7 c8 h) (hX : X (some (.int (nI (tCl v d)))) h) : ex_W 15 0 [.ref a, .int (nI d)] [] h X := by
  have hC := tC_le h1 h2
  have ga := hD.1
  have h0 : 0 < tC v := by omega
  obtain ⟨fc', w2, u1, u2, u3, u4⟩ := hD.txt h1 h2
  obtain ⟨fx, rx1, rx2⟩ := hD.row h1 h2 hd
  obtain ⟨fy, ry1, ry2⟩ := hD.row h1 h2 h0
  have oVR : ∀ e, e < tC v → ∀ j, j < 2 * v → nI (tR v e j) = oV (tR v e j) := fun e he j hj => by
    have := tR_lt h1 h2 he hj
    rw [oV_n (by omega)]
  simp only [s15_0, s15_1, s15_4, s15_7, s15_8, s15_9, s15_10, s15_13, s15_16, s15_17, s15_18, s15_21, is_O, opt_s, opt_n, cat_0, cat_i, cat_r, true_and, Nat.zero_le, Nat.reduceAdd, Nat.reduceLeDiff, al_I, as_I, rl_R, ln_I, ln_R, nI_add, pk_mul, g_set, set_set, not_false_eq_true, gf0_0, gf0_1, gf0_2, gf1_0, gf1_1, gf1_2, gf1_3, gf1_4, gf1_5, gf1_6, gf1_7, gf1_8, gf1_9, gf1_10, gf1_11, gf2_0, gf2_1, gf2_2, gf3_0, gf3_1, gf4_0, gf4_1, gf4_2, gf5_0, gf5_1, gf5_2, gf5_3, gf6_0, gf6_1, gf6_2, gf6_3, gf6_4, gf6_5, gf6_6, gf7_0, gf7_1, gf7_2, gf7_3, gf7_4, gf7_5, pf0_0, pf0_1, pf0_2, pf1_0, pf1_1, pf1_2, pf1_3, pf1_4, pf1_5, pf1_6, pf1_7, pf1_8, pf1_9, pf1_10, pf1_11, pf2_0, pf2_1, pf2_2, pf3_0, pf3_1, pf4_0, pf4_1, pf4_2, pf5_0, pf5_1, pf5_2, pf5_3, pf6_0, pf6_1, pf6_2, pf6_3, pf6_4, pf6_5, pf6_6, pf7_0, pf7_1, pf7_2, pf7_3, pf7_4, pf7_5, ga, u1, u4, xi_n hd (show tC v < 2147483648 by omega), xi_n h0 (show tC v < 2147483648 by omega), if_pos hd, if_pos h0, va_rf]
  refine m_closed (F := tR v d) (G := tR v 0) (by omega) rx1 ry1 (fun j hj => (rx2 j hj).trans (oVR d hd j hj)) (fun j hj => (ry2 j hj).trans (oVR 0 h0 j hj)) (fun j hj => Or.inr (tR_lt h1 h2 hd hj)) (fun j hj => Or.inr (tR_lt h1 h2 h0 hj)) ?_
  rw [tGl h1 h2 hd]
  simp only [s15_0, s15_1, s15_4, s15_7, s15_8, s15_9, s15_10, s15_13, s15_16, s15_17, s15_18, s15_21, is_O, opt_s, opt_n, cat_0, cat_i, cat_r, true_and, Nat.zero_le, Nat.reduceAdd, Nat.reduceLeDiff, al_I, as_I, rl_R, ln_I, ln_R, nI_add, pk_mul, g_set, set_set, not_false_eq_true, gf0_0, gf0_1, gf0_2, gf1_0, gf1_1, gf1_2, gf1_3, gf1_4, gf1_5, gf1_6, gf1_7, gf1_8, gf1_9, gf1_10, gf1_11, gf2_0, gf2_1, gf2_2, gf3_0, gf3_1, gf4_0, gf4_1, gf4_2, gf5_0, gf5_1, gf5_2, gf5_3, gf6_0, gf6_1, gf6_2, gf6_3, gf6_4, gf6_5, gf6_6, gf7_0, gf7_1, gf7_2, gf7_3, gf7_4, gf7_5, pf0_0, pf0_1, pf0_2, pf1_0, pf1_1, pf1_2, pf1_3, pf1_4, pf1_5, pf1_6, pf1_7, pf1_8, pf1_9, pf1_10, pf1_11, pf2_0, pf2_1, pf2_2, pf3_0, pf3_1, pf4_0, pf4_1, pf4_2, pf5_0, pf5_1, pf5_2, pf5_3, pf6_0, pf6_1, pf6_2, pf6_3, pf6_4, pf6_5, pf6_6, pf7_0, pf7_1, pf7_2, pf7_3, pf7_4, pf7_5]
  exact hX
end C6
