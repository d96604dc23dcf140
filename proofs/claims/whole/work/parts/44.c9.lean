/-! THE CLASS: a Diagrams is made: its halves -/
theorem dfl1 : ex_dfl 1 = [.int 0, .int 0, .null, .null, .null, .null, .null, .null, .null, .null, .null, .null] := by decide +kernel
theorem hO_s {v i r : Nat} (h : r + 2 * i = v) : hO v (i + 1) = hO v i + 6 + tHn v r := by
  rw [hO, show v - 2 * i = r by omega]
theorem hO_m {v i : Nat} : ∀ k, hO v i ≤ hO v (i + k) := by
  intro k
  induction k with
  | zero => exact Nat.le_refl _
  | succ k ih =>
    rw [show i + (k + 1) = i + k + 1 by omega, hO]
    omega
abbrev oD0 (v a : Nat) : ex_AC := cO 1 [.int (nI v), .int (nI (2 * v)), .ref (a + 1), .ref (a + 7 + tC v), .null, .null, .null, .null, .null, .null, .null, .null]
def hvI (v a S0 : Nat) (h : ex_Hp) (i : Nat) (H : ex_Hp) : Prop := H.1 = a + hO v i ∧ H.2.1 ≤ S0 + 800 * i ∧ (∀ q, q < a → ex_g H q = ex_g h q) ∧ ex_g H a = some (oD0 v a) ∧ TX (2 * v) 0 (a + 1) H ∧ ex_g H (a + 7 + tC v) = some (cR 5 (v + 1) (fun r => if okR v r ∧ (v - r) / 2 < i then some (a + hO v ((v - r) / 2)) else none)) ∧ ∀ r, okR v r → (v - r) / 2 < i → TX v r (a + hO v ((v - r) / 2)) H
section C9
variable {h H : ex_Hp} {X : Option Value → ex_Hp → Prop} {v a x y u l d S0 : Nat} {c3 c4 c6 c7 c8 : Value} {fu fl : Nat → Int32}
theorem rs_R {t n z ci : Nat} {f : Nat → Option Nat} {fs : List Value} {i : Int32} {F : ex_AC → Prop} (hm : ex_may t (cO ci fs) = true) : ex_rs (some (cR t n f)) (some (cO ci fs)) i z F = ex_xi i n (fun j => F (cR t n (va_up f j (some z)))) := by
  unfold ex_rs
  dsimp only
  rw [if_pos hm]
theorem le_hv {p q s i : Nat} (e : p ≤ q + 7 + 700) (g : q ≤ s + 800 * i) : p ≤ s + 800 * (i + 1) := by
  have e1 : q + 7 + 700 = q + (7 + 700) := Nat.add_assoc _ _ _
  rw [e1] at e
  have e2 := Nat.le_trans e (Nat.add_le_add_right g (7 + 700))
  have e3 : 800 * (i + 1) = 800 * i + 800 := Nat.mul_succ 800 i
  rw [e3, ← Nat.add_assoc]
  exact Nat.le_trans e2 (Nat.add_le_add_left (by decide) _)
theorem l_hvb {r i : Nat} (h1 : 1 ≤ v) (h2 : v ≤ 5) (hr : r + 2 * i = v) (hH : hvI v a S0 h i H) (hX : ∀ G, hvI v a S0 h (i + 1) G → ex_W 8 44 [.ref a, .int (nI v), .int (nI r - nI 2)] [] G X) : ex_W 8 44 [.ref a, .int (nI v), .int (nI r)] [] H X := by
  have hC := tC_le h1 h2
  obtain ⟨_, l1, l2⟩ := cLd h1 h2
  have hok : okR v r := ⟨by omega, by omega⟩
  have hir : (v - r) / 2 = i := by omega
  obtain ⟨k1, k2, k3, k4⟩ := hO_r h1 h2 hok
  rw [hir] at k1 k2
  obtain ⟨g1, g2, g3, g4, g5, g6, g7⟩ := hH
  have hs := hO_s hr
  rw [s8_44]
  simp only [s8_0, s8_1, s8_4, s8_5, s8_6, s8_9, s8_10, s8_11, s8_12, s8_13, s8_16, s8_17, s8_20, s8_21, s8_22, s8_25, s8_26, s8_29, s8_32, s8_33, s8_34, s8_35, s8_36, s8_39, s8_42, s8_43, s8_45, s8_48, s8_49, s8_52, s8_53, s8_56, s8_57, s8_58, s8_59, s8_62, s8_63, s8_66, s8_70, s8_71, s8_74, s8_76, s8_79, s8_80, s8_81, s8_83, s8_86, s8_87, s8_88, s8_90, s8_93, s8_94, s8_95, s8_98, s8_101, s8_102, s8_105, s8_108, s8_109, s8_111, s8_114, s8_115, s8_118, s8_119, s8_122, s8_123, s8_124, s8_126, s8_129, s8_130, s8_131, s8_132, s8_133, s8_136, s8_137, s8_140, s8_141, s8_142, s8_143, s8_146, s8_147, s8_150, s8_153, s8_154, s8_155, s8_158, s8_161, s8_163, s8_166, s8_167, s8_168, s8_171, s8_174, s8_176, s8_179, s8_180, s8_181, s8_184, s8_187, s8_189, s8_192, s8_193, s8_196, is_O, opt_s, opt_n, cat_0, cat_i, cat_r, true_and, Nat.zero_le, Nat.reduceAdd, Nat.reduceLeDiff, al_I, as_I, rl_R, ln_I, ln_R, nI_add, pk_mul, g_set, set_set, not_false_eq_true, gf0_0, gf0_1, gf0_2, gf1_0, gf1_1, gf1_2, gf1_3, gf1_4, gf1_5, gf1_6, gf1_7, gf1_8, gf1_9, gf1_10, gf1_11, gf2_0, gf2_1, gf2_2, gf3_0, gf3_1, gf4_0, gf4_1, gf4_2, gf5_0, gf5_1, gf5_2, gf5_3, gf6_0, gf6_1, gf6_2, gf6_3, gf6_4, gf6_5, gf6_6, gf7_0, gf7_1, gf7_2, gf7_3, gf7_4, gf7_5, pf0_0, pf0_1, pf0_2, pf1_0, pf1_1, pf1_2, pf1_3, pf1_4, pf1_5, pf1_6, pf1_7, pf1_8, pf1_9, pf1_10, pf1_11, pf2_0, pf2_1, pf2_2, pf3_0, pf3_1, pf4_0, pf4_1, pf4_2, pf5_0, pf5_1, pf5_2, pf5_3, pf6_0, pf6_1, pf6_2, pf6_3, pf6_4, pf6_5, pf6_6, pf7_0, pf7_1, pf7_2, pf7_3, pf7_4, pf7_5, g4]
  rw [if_neg (fun z => absurd ((nI_l2 (by omega) (by omega)).mp z) (by omega))]
  refine m_Texts (t := H.1) k3 rfl g_new (fun G e1 e2 e3 e4 => ?_)
  have f4 : ex_g G (a + 7 + tC v) = _ := (e3 _ (by omega)).trans ((g_newn (by omega)).trans g6)
  have ft := e4.1
  have hn : ∀ q, q < H.1 → ex_g G q = ex_g H q := fun q hq => (e3 q hq).trans (g_newn (by omega))
  simp only [s8_0, s8_1, s8_4, s8_5, s8_6, s8_9, s8_10, s8_11, s8_12, s8_13, s8_16, s8_17, s8_20, s8_21, s8_22, s8_25, s8_26, s8_29, s8_32, s8_33, s8_34, s8_35, s8_36, s8_39, s8_42, s8_43, s8_45, s8_48, s8_49, s8_52, s8_53, s8_56, s8_57, s8_58, s8_59, s8_62, s8_63, s8_66, s8_70, s8_71, s8_74, s8_76, s8_79, s8_80, s8_81, s8_83, s8_86, s8_87, s8_88, s8_90, s8_93, s8_94, s8_95, s8_98, s8_101, s8_102, s8_105, s8_108, s8_109, s8_111, s8_114, s8_115, s8_118, s8_119, s8_122, s8_123, s8_124, s8_126, s8_129, s8_130, s8_131, s8_132, s8_133, s8_136, s8_137, s8_140, s8_141, s8_142, s8_143, s8_146, s8_147, s8_150, s8_153, s8_154, s8_155, s8_158, s8_161, s8_163, s8_166, s8_167, s8_168, s8_171, s8_174, s8_176, s8_179, s8_180, s8_181, s8_184, s8_187, s8_189, s8_192, s8_193, s8_196, is_O, opt_s, opt_n, cat_0, cat_i, cat_r, true_and, Nat.zero_le, Nat.reduceAdd, Nat.reduceLeDiff, al_I, as_I, rl_R, ln_I, ln_R, nI_add, pk_mul, g_set, set_set, not_false_eq_true, gf0_0, gf0_1, gf0_2, gf1_0, gf1_1, gf1_2, gf1_3, gf1_4, gf1_5, gf1_6, gf1_7, gf1_8, gf1_9, gf1_10, gf1_11, gf2_0, gf2_1, gf2_2, gf3_0, gf3_1, gf4_0, gf4_1, gf4_2, gf5_0, gf5_1, gf5_2, gf5_3, gf6_0, gf6_1, gf6_2, gf6_3, gf6_4, gf6_5, gf6_6, gf7_0, gf7_1, gf7_2, gf7_3, gf7_4, gf7_5, pf0_0, pf0_1, pf0_2, pf1_0, pf1_1, pf1_2, pf1_3, pf1_4, pf1_5, pf1_6, pf1_7, pf1_8, pf1_9, pf1_10, pf1_11, pf2_0, pf2_1, pf2_2, pf3_0, pf3_1, pf4_0, pf4_1, pf4_2, pf5_0, pf5_1, pf5_2, pf5_3, pf6_0, pf6_1, pf6_2, pf6_3, pf6_4, pf6_5, pf6_6, pf7_0, pf7_1, pf7_2, pf7_3, pf7_4, pf7_5, f4, ft]
  rw [rs_R (by rfl)]
  simp only [xi_n (show r < v + 1 by omega) (show v + 1 < 2147483648 by omega), is_O, opt_s, opt_n, cat_0, cat_i, cat_r, true_and, Nat.zero_le, Nat.reduceAdd, Nat.reduceLeDiff, al_I, as_I, rl_R, ln_I, ln_R, nI_add, pk_mul, g_set, set_set, not_false_eq_true, gf0_0, gf0_1, gf0_2, gf1_0, gf1_1, gf1_2, gf1_3, gf1_4, gf1_5, gf1_6, gf1_7, gf1_8, gf1_9, gf1_10, gf1_11, gf2_0, gf2_1, gf2_2, gf3_0, gf3_1, gf4_0, gf4_1, gf4_2, gf5_0, gf5_1, gf5_2, gf5_3, gf6_0, gf6_1, gf6_2, gf6_3, gf6_4, gf6_5, gf6_6, gf7_0, gf7_1, gf7_2, gf7_3, gf7_4, gf7_5, pf0_0, pf0_1, pf0_2, pf1_0, pf1_1, pf1_2, pf1_3, pf1_4, pf1_5, pf1_6, pf1_7, pf1_8, pf1_9, pf1_10, pf1_11, pf2_0, pf2_1, pf2_2, pf3_0, pf3_1, pf4_0, pf4_1, pf4_2, pf5_0, pf5_1, pf5_2, pf5_3, pf6_0, pf6_1, pf6_2, pf6_3, pf6_4, pf6_5, pf6_6, pf7_0, pf7_1, pf7_2, pf7_3, pf7_4, pf7_5, s8_63, s8_66]
  replace e2 : G.2.1 ≤ H.2.1 + 7 + 700 := e2
  refine hX _ ⟨?_, ?_, fun q hq => ?_, ?_, ?_, ?_, fun r' hr' hi' => ?_⟩
  · rw [set_1, e1, k4, hs]
    omega
  · rw [set_2]
    exact le_hv e2 g2
  · rw [g_ne (by omega), hn q (by omega)]
    exact g3 q hq
  · rw [g_ne (by omega), hn a (by omega)]
    exact g4
  · exact g5.fr (fun q q1 q2 => by rw [g_ne (by omega), hn q (by omega)])
  · rw [g_set]
    refine congrArg (fun f => some (cR 5 (v + 1) f)) (funext fun j => ?_)
    unfold va_up
    by_cases hj : j = r
    · subst hj
      rw [if_pos rfl, if_pos ⟨hok, by omega⟩, hir, g1]
    · rw [if_neg hj]
      show (if okR v j ∧ (v - j) / 2 < i then some (a + hO v ((v - j) / 2)) else none) = _
      by_cases hc : okR v j ∧ (v - j) / 2 < i
      · rw [if_pos hc, if_pos ⟨hc.1, by omega⟩]
      · rw [if_neg hc, if_neg (by omega)]
  · by_cases hc : (v - r') / 2 = i
    · obtain rfl : r' = r := by omega
      rw [hir, ← g1]
      exact e4.fr (fun q q1 q2 => by rw [g_ne (by omega)])
    · obtain ⟨m1, m2, m3, m4⟩ := hO_r h1 h2 hr'
      have hs' := hO_s (v := v) (r := r') (i := (v - r') / 2) (by omega)
      have hmo := hO_m (v := v) (i := (v - r') / 2 + 1) (i - ((v - r') / 2 + 1))
      rw [show (v - r') / 2 + 1 + (i - ((v - r') / 2 + 1)) = i by omega] at hmo
      exact (g7 r' hr' (by omega)).fr (fun q q1 q2 => by rw [g_ne (by omega), hn q (by omega)])
theorem l_hv (h1 : 1 ≤ v) (h2 : v ≤ 5) (hX : ∀ G l2, hvI v a S0 h (v / 2 + 1) G → ex_W 8 69 [.ref a, .int (nI v), l2] [] G X) : ∀ (n r i : Nat) (H : ex_Hp), r ≤ 2 * n + 1 → r + 2 * i = v → hvI v a S0 h i H → ex_W 8 44 [.ref a, .int (nI v), .int (nI r)] [] H X := by
  intro n
  induction n with
  | zero =>
    intro r i H hn hr hH
    refine l_hvb h1 h2 hr hH (fun G hG => ?_)
    rw [show i + 1 = v / 2 + 1 by omega] at hG
    rw [s8_44]
    simp only [s8_0, s8_1, s8_4, s8_5, s8_6, s8_9, s8_10, s8_11, s8_12, s8_13, s8_16, s8_17, s8_20, s8_21, s8_22, s8_25, s8_26, s8_29, s8_32, s8_33, s8_34, s8_35, s8_36, s8_39, s8_42, s8_43, s8_45, s8_48, s8_49, s8_52, s8_53, s8_56, s8_57, s8_58, s8_59, s8_62, s8_63, s8_66, s8_70, s8_71, s8_74, s8_76, s8_79, s8_80, s8_81, s8_83, s8_86, s8_87, s8_88, s8_90, s8_93, s8_94, s8_95, s8_98, s8_101, s8_102, s8_105, s8_108, s8_109, s8_111, s8_114, s8_115, s8_118, s8_119, s8_122, s8_123, s8_124, s8_126, s8_129, s8_130, s8_131, s8_132, s8_133, s8_136, s8_137, s8_140, s8_141, s8_142, s8_143, s8_146, s8_147, s8_150, s8_153, s8_154, s8_155, s8_158, s8_161, s8_163, s8_166, s8_167, s8_168, s8_171, s8_174, s8_176, s8_179, s8_180, s8_181, s8_184, s8_187, s8_189, s8_192, s8_193, s8_196, is_O, opt_s, opt_n, cat_0, cat_i, cat_r, true_and, Nat.zero_le, Nat.reduceAdd, Nat.reduceLeDiff, al_I, as_I, rl_R, ln_I, ln_R, nI_add, pk_mul, g_set, set_set, not_false_eq_true, gf0_0, gf0_1, gf0_2, gf1_0, gf1_1, gf1_2, gf1_3, gf1_4, gf1_5, gf1_6, gf1_7, gf1_8, gf1_9, gf1_10, gf1_11, gf2_0, gf2_1, gf2_2, gf3_0, gf3_1, gf4_0, gf4_1, gf4_2, gf5_0, gf5_1, gf5_2, gf5_3, gf6_0, gf6_1, gf6_2, gf6_3, gf6_4, gf6_5, gf6_6, gf7_0, gf7_1, gf7_2, gf7_3, gf7_4, gf7_5, pf0_0, pf0_1, pf0_2, pf1_0, pf1_1, pf1_2, pf1_3, pf1_4, pf1_5, pf1_6, pf1_7, pf1_8, pf1_9, pf1_10, pf1_11, pf2_0, pf2_1, pf2_2, pf3_0, pf3_1, pf4_0, pf4_1, pf4_2, pf5_0, pf5_1, pf5_2, pf5_3, pf6_0, pf6_1, pf6_2, pf6_3, pf6_4, pf6_5, pf6_6, pf7_0, pf7_1, pf7_2, pf7_3, pf7_4, pf7_5]
    rw [if_pos (show nI r - nI 2 < nI 0 by rw [nI_0]; exact pk_sneg (by decide) (by omega))]
    exact hX G _ hG
  | succ n ih =>
    intro r i H hn hr hH
    refine l_hvb h1 h2 hr hH (fun G hG => ?_)
    by_cases hr2 : 2 ≤ r
    · rw [pk_sub hr2]
      exact ih (r - 2) (i + 1) G (by omega) (by omega) hG
    · rw [show i + 1 = v / 2 + 1 by omega] at hG
      rw [s8_44]
      simp only [s8_0, s8_1, s8_4, s8_5, s8_6, s8_9, s8_10, s8_11, s8_12, s8_13, s8_16, s8_17, s8_20, s8_21, s8_22, s8_25, s8_26, s8_29, s8_32, s8_33, s8_34, s8_35, s8_36, s8_39, s8_42, s8_43, s8_45, s8_48, s8_49, s8_52, s8_53, s8_56, s8_57, s8_58, s8_59, s8_62, s8_63, s8_66, s8_70, s8_71, s8_74, s8_76, s8_79, s8_80, s8_81, s8_83, s8_86, s8_87, s8_88, s8_90, s8_93, s8_94, s8_95, s8_98, s8_101, s8_102, s8_105, s8_108, s8_109, s8_111, s8_114, s8_115, s8_118, s8_119, s8_122, s8_123, s8_124, s8_126, s8_129, s8_130, s8_131, s8_132, s8_133, s8_136, s8_137, s8_140, s8_141, s8_142, s8_143, s8_146, s8_147, s8_150, s8_153, s8_154, s8_155, s8_158, s8_161, s8_163, s8_166, s8_167, s8_168, s8_171, s8_174, s8_176, s8_179, s8_180, s8_181, s8_184, s8_187, s8_189, s8_192, s8_193, s8_196, is_O, opt_s, opt_n, cat_0, cat_i, cat_r, true_and, Nat.zero_le, Nat.reduceAdd, Nat.reduceLeDiff, al_I, as_I, rl_R, ln_I, ln_R, nI_add, pk_mul, g_set, set_set, not_false_eq_true, gf0_0, gf0_1, gf0_2, gf1_0, gf1_1, gf1_2, gf1_3, gf1_4, gf1_5, gf1_6, gf1_7, gf1_8, gf1_9, gf1_10, gf1_11, gf2_0, gf2_1, gf2_2, gf3_0, gf3_1, gf4_0, gf4_1, gf4_2, gf5_0, gf5_1, gf5_2, gf5_3, gf6_0, gf6_1, gf6_2, gf6_3, gf6_4, gf6_5, gf6_6, gf7_0, gf7_1, gf7_2, gf7_3, gf7_4, gf7_5, pf0_0, pf0_1, pf0_2, pf1_0, pf1_1, pf1_2, pf1_3, pf1_4, pf1_5, pf1_6, pf1_7, pf1_8, pf1_9, pf1_10, pf1_11, pf2_0, pf2_1, pf2_2, pf3_0, pf3_1, pf4_0, pf4_1, pf4_2, pf5_0, pf5_1, pf5_2, pf5_3, pf6_0, pf6_1, pf6_2, pf6_3, pf6_4, pf6_5, pf6_6, pf7_0, pf7_1, pf7_2, pf7_3, pf7_4, pf7_5]
      rw [if_pos (show nI r - nI 2 < nI 0 by rw [nI_0]; exact pk_sneg (by decide) (by omega))]
      exact hX G _ hG
theorem l_dg1 (h1 : 1 ≤ v) (h2 : v ≤ 5) (hn : h.1 = a + 1) (ha : ex_g h a = some (cO 1 (ex_dfl 1))) (hX : ∀ G l2, hvI v a (h.2.1 + 800) h (v / 2 + 1) G → ex_W 8 69 [.ref a, .int (nI v), l2] [] G X) : ex_W 8 0 [.ref a, .int (nI v), oU] [] h X := by
  have hC := tC_le h1 h2
  obtain ⟨l0, l1, l2⟩ := cLd h1 h2
  rw [dfl1] at ha
  have na : a < a + 1 := by omega
  simp only [s8_0, s8_1, s8_4, s8_5, s8_6, s8_9, s8_10, s8_11, s8_12, s8_13, s8_16, s8_17, s8_20, s8_21, s8_22, s8_25, s8_26, s8_29, s8_32, s8_33, s8_34, s8_35, s8_36, s8_39, s8_42, s8_43, s8_45, s8_48, s8_49, s8_52, s8_53, s8_56, s8_57, s8_58, s8_59, s8_62, s8_63, s8_66, s8_70, s8_71, s8_74, s8_76, s8_79, s8_80, s8_81, s8_83, s8_86, s8_87, s8_88, s8_90, s8_93, s8_94, s8_95, s8_98, s8_101, s8_102, s8_105, s8_108, s8_109, s8_111, s8_114, s8_115, s8_118, s8_119, s8_122, s8_123, s8_124, s8_126, s8_129, s8_130, s8_131, s8_132, s8_133, s8_136, s8_137, s8_140, s8_141, s8_142, s8_143, s8_146, s8_147, s8_150, s8_153, s8_154, s8_155, s8_158, s8_161, s8_163, s8_166, s8_167, s8_168, s8_171, s8_174, s8_176, s8_179, s8_180, s8_181, s8_184, s8_187, s8_189, s8_192, s8_193, s8_196, is_O, opt_s, opt_n, cat_0, cat_i, cat_r, true_and, Nat.zero_le, Nat.reduceAdd, Nat.reduceLeDiff, al_I, as_I, rl_R, ln_I, ln_R, nI_add, pk_mul, g_set, set_set, not_false_eq_true, gf0_0, gf0_1, gf0_2, gf1_0, gf1_1, gf1_2, gf1_3, gf1_4, gf1_5, gf1_6, gf1_7, gf1_8, gf1_9, gf1_10, gf1_11, gf2_0, gf2_1, gf2_2, gf3_0, gf3_1, gf4_0, gf4_1, gf4_2, gf5_0, gf5_1, gf5_2, gf5_3, gf6_0, gf6_1, gf6_2, gf6_3, gf6_4, gf6_5, gf6_6, gf7_0, gf7_1, gf7_2, gf7_3, gf7_4, gf7_5, pf0_0, pf0_1, pf0_2, pf1_0, pf1_1, pf1_2, pf1_3, pf1_4, pf1_5, pf1_6, pf1_7, pf1_8, pf1_9, pf1_10, pf1_11, pf2_0, pf2_1, pf2_2, pf3_0, pf3_1, pf4_0, pf4_1, pf4_2, pf5_0, pf5_1, pf5_2, pf5_3, pf6_0, pf6_1, pf6_2, pf6_3, pf6_4, pf6_5, pf6_6, pf7_0, pf7_1, pf7_2, pf7_3, pf7_4, pf7_5, ha, set_1, hn, g_nl, na]
  refine m_Texts (t := a + 1) l0 (by rw [new_1, set_1, hn]) (by rw [← hn]; exact g_new) (fun G e1 e2 e3 e4 => ?_)
  have ga : ex_g G a = some (cO 1 [.int (nI v), .int (nI (2 * v)), .null, .null, .null, .null, .null, .null, .null, .null, .null, .null]) := by
    rw [e3 a (by omega), g_newn (by rw [set_1]; omega), g_set]
  have hG1 : G.1 = a + 7 + tC v := by omega
  have nb : a < a + 7 + tC v := by omega
  simp only [s8_0, s8_1, s8_4, s8_5, s8_6, s8_9, s8_10, s8_11, s8_12, s8_13, s8_16, s8_17, s8_20, s8_21, s8_22, s8_25, s8_26, s8_29, s8_32, s8_33, s8_34, s8_35, s8_36, s8_39, s8_42, s8_43, s8_45, s8_48, s8_49, s8_52, s8_53, s8_56, s8_57, s8_58, s8_59, s8_62, s8_63, s8_66, s8_70, s8_71, s8_74, s8_76, s8_79, s8_80, s8_81, s8_83, s8_86, s8_87, s8_88, s8_90, s8_93, s8_94, s8_95, s8_98, s8_101, s8_102, s8_105, s8_108, s8_109, s8_111, s8_114, s8_115, s8_118, s8_119, s8_122, s8_123, s8_124, s8_126, s8_129, s8_130, s8_131, s8_132, s8_133, s8_136, s8_137, s8_140, s8_141, s8_142, s8_143, s8_146, s8_147, s8_150, s8_153, s8_154, s8_155, s8_158, s8_161, s8_163, s8_166, s8_167, s8_168, s8_171, s8_174, s8_176, s8_179, s8_180, s8_181, s8_184, s8_187, s8_189, s8_192, s8_193, s8_196, is_O, opt_s, opt_n, cat_0, cat_i, cat_r, true_and, Nat.zero_le, Nat.reduceAdd, Nat.reduceLeDiff, al_I, as_I, rl_R, ln_I, ln_R, nI_add, pk_mul, g_set, set_set, not_false_eq_true, gf0_0, gf0_1, gf0_2, gf1_0, gf1_1, gf1_2, gf1_3, gf1_4, gf1_5, gf1_6, gf1_7, gf1_8, gf1_9, gf1_10, gf1_11, gf2_0, gf2_1, gf2_2, gf3_0, gf3_1, gf4_0, gf4_1, gf4_2, gf5_0, gf5_1, gf5_2, gf5_3, gf6_0, gf6_1, gf6_2, gf6_3, gf6_4, gf6_5, gf6_6, gf7_0, gf7_1, gf7_2, gf7_3, gf7_4, gf7_5, pf0_0, pf0_1, pf0_2, pf1_0, pf1_1, pf1_2, pf1_3, pf1_4, pf1_5, pf1_6, pf1_7, pf1_8, pf1_9, pf1_10, pf1_11, pf2_0, pf2_1, pf2_2, pf3_0, pf3_1, pf4_0, pf4_1, pf4_2, pf5_0, pf5_1, pf5_2, pf5_3, pf6_0, pf6_1, pf6_2, pf6_3, pf6_4, pf6_5, pf6_6, pf7_0, pf7_1, pf7_2, pf7_3, pf7_4, pf7_5, ga, set_1, hG1, na_n (show v + 1 ≤ 100000 by omega), g_nl, nb]
  replace e2 : G.2.1 ≤ h.2.1 + 7 + 700 := e2
  refine l_hv (S0 := h.2.1 + 800) h1 h2 hX 5 v 0 _ (by omega) (by omega) ⟨?_, ?_, fun q hq => ?_, g_set, ?_, ?_, fun r hr hi => by omega⟩
  · rw [set_1, new_1, set_1, hG1]
    show _ = a + (8 + tC v)
    omega
  · rw [set_2, new_2, set_2]
    omega
  · rw [g_ne (by omega), g_newn (by rw [set_1]; omega), g_ne (by omega), e3 q (by omega), g_newn (by rw [set_1]; omega), g_ne (by omega)]
  · exact e4.fr (fun q q1 q2 => by rw [g_ne (by omega), g_newn (by rw [set_1]; omega), g_ne (by omega)])
  · rw [g_ne (by omega)]
    have : ex_g (ex_new (ex_set G a (cO 1 [.int (nI v), .int (nI (2 * v)), .ref (a + 1), .null, .null, .null, .null, .null, .null, .null, .null, .null])) (cR 5 (v + 1) (fun _ => none)) (v + 1)) G.1 = some (cR 5 (v + 1) (fun _ => none)) := g_new
    rw [hG1] at this
    rw [this]
    refine congrArg (fun f => some (cR 5 (v + 1) f)) (funext fun j => ?_)
    rw [if_neg (by omega)]
end C9
