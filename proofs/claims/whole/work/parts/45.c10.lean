/-! THE CLASS: a Diagrams is made: its rows -/
section C10
variable {h H K G : ex_Hp} {X : Option Value → ex_Hp → Prop} {v a x y u l d S0 n E' : Nat} {c3 c4 c6 c7 c8 d4 d6 d7 d8 : Value} {fu fl : Nat → Int32} {c c' : ex_AC}
theorem st_np (hK : K.1 = E') (ha : a < E') : (ex_set (ex_new K c n) a c').1 = E' + 1 ∧ (ex_set (ex_new K c n) a c').2.1 = K.2.1 + n ∧ ex_g (ex_set (ex_new K c n) a c') a = some c' ∧ ex_g (ex_set (ex_new K c n) a c') E' = some c ∧ ∀ q, ¬ q = a → ¬ q = E' → ex_g (ex_set (ex_new K c n) a c') q = ex_g K q := by
  refine ⟨by rw [set_1, new_1, hK], rfl, g_set, ?_, fun q q1 q2 => ?_⟩
  · rw [g_ne (by omega), ← hK]
    exact g_new
  · rw [g_ne q1, g_newn (by omega)]
theorem DK.obj (h1 : 1 ≤ v) (h2 : v ≤ 5) (hD : DK v a c3 c4 c6 c7 c8 h) (ho : ex_g H a = some (oDg v a c3 d4 d6 d7 d8)) (hq : ∀ q, a < q → q < a + eO v + 4 → ex_g H q = ex_g h q) : DK v a c3 d4 d6 d7 d8 H := by
  obtain ⟨d1, d2, ⟨fs, d3, d4⟩, ⟨f1, d5⟩, ⟨f2, d6⟩, f3, d7⟩ := hD
  obtain ⟨_, l1, l2⟩ := cLd h1 h2
  refine ⟨ho, d2.fr (fun q q1 q2 => hq q (by omega) (by omega)), ⟨fs, ?_, d4⟩, ⟨f1, ?_⟩, ⟨f2, ?_⟩, f3, ?_⟩
  · rw [hq _ (by omega) (by omega)]; exact d3
  · rw [hq _ (by omega) (by omega)]; exact d5
  · rw [hq _ (by omega) (by omega)]; exact d6
  · rw [hq _ (by omega) (by omega)]; exact d7
/-- what changes while the hooks are found -/
def chH (v a : Nat) (h H : ex_Hp) : Prop := H.1 = h.1 ∧ H.2.1 = h.2.1 ∧ ∀ q, q < a + eO v ∨ a + eO v + 5 ≤ q → ex_g H q = ex_g h q
theorem l_hk131 (h1 : 1 ≤ v) (h2 : v ≤ 5) (hX : ∀ H f l2, chH v a h H → DK v a c3 (.ref (a + eO v + 4)) c6 c7 c8 H → ex_g H (a + eO v + 4) = some (cI v f) → (∀ i, 1 ≤ i → i < v → f i = nI (tHk v i)) → ex_W 8 153 [.ref a, .int (nI v), l2] [] H X) : ∀ (m t : Nat) (H : ex_Hp) (f : Nat → Int32), m + t = v → 1 ≤ t → chH v a h H → DK v a c3 (.ref (a + eO v + 4)) c6 c7 c8 H → ex_g H (a + eO v + 4) = some (cI v f) → (∀ i, 1 ≤ i → i < t → f i = nI (tHk v i)) → ex_W 8 131 [.ref a, .int (nI v), .int (nI t)] [] H X := by
  obtain ⟨_, l1, l2⟩ := cLd h1 h2
  intro m
  induction m with
  | zero =>
    intro t H f hm ht hH hK gf hf
    obtain rfl : t = v := by omega
    rw [s8_131]
    simp only [s8_0, s8_1, s8_4, s8_5, s8_6, s8_9, s8_10, s8_11, s8_12, s8_13, s8_16, s8_17, s8_20, s8_21, s8_22, s8_25, s8_26, s8_29, s8_32, s8_33, s8_34, s8_35, s8_36, s8_39, s8_42, s8_43, s8_44, s8_45, s8_48, s8_49, s8_52, s8_53, s8_56, s8_57, s8_58, s8_59, s8_62, s8_63, s8_66, s8_69, s8_70, s8_71, s8_74, s8_76, s8_79, s8_80, s8_81, s8_83, s8_86, s8_87, s8_88, s8_90, s8_93, s8_94, s8_95, s8_98, s8_101, s8_102, s8_105, s8_108, s8_109, s8_111, s8_114, s8_115, s8_118, s8_119, s8_122, s8_123, s8_124, s8_126, s8_129, s8_130, s8_132, s8_133, s8_136, s8_137, s8_140, s8_141, s8_142, s8_143, s8_146, s8_147, s8_150, s8_154, s8_155, s8_158, s8_161, s8_163, s8_166, s8_167, s8_168, s8_171, s8_174, s8_176, s8_179, s8_180, s8_181, s8_184, s8_187, s8_189, s8_192, s8_193, s8_196, is_O, opt_s, opt_n, cat_0, cat_i, cat_r, true_and, Nat.zero_le, Nat.reduceAdd, Nat.reduceLeDiff, al_I, as_I, rl_R, ln_I, ln_R, nI_add, pk_mul, g_set, set_set, not_false_eq_true, gf0_0, gf0_1, gf0_2, gf1_0, gf1_1, gf1_2, gf1_3, gf1_4, gf1_5, gf1_6, gf1_7, gf1_8, gf1_9, gf1_10, gf1_11, gf2_0, gf2_1, gf2_2, gf3_0, gf3_1, gf4_0, gf4_1, gf4_2, gf5_0, gf5_1, gf5_2, gf5_3, gf6_0, gf6_1, gf6_2, gf6_3, gf6_4, gf6_5, gf6_6, gf7_0, gf7_1, gf7_2, gf7_3, gf7_4, gf7_5, pf0_0, pf0_1, pf0_2, pf1_0, pf1_1, pf1_2, pf1_3, pf1_4, pf1_5, pf1_6, pf1_7, pf1_8, pf1_9, pf1_10, pf1_11, pf2_0, pf2_1, pf2_2, pf3_0, pf3_1, pf4_0, pf4_1, pf4_2, pf5_0, pf5_1, pf5_2, pf5_3, pf6_0, pf6_1, pf6_2, pf6_3, pf6_4, pf6_5, pf6_6, pf7_0, pf7_1, pf7_2, pf7_3, pf7_4, pf7_5]
    rw [if_pos ((nI_l1 (by omega) (by omega)).mpr (by omega))]
    exact hX H f _ hH hK gf hf
  | succ m ih =>
    intro t H f hm ht hH hK gf hf
    have ga := hK.1
    rw [s8_131]
    simp only [s8_0, s8_1, s8_4, s8_5, s8_6, s8_9, s8_10, s8_11, s8_12, s8_13, s8_16, s8_17, s8_20, s8_21, s8_22, s8_25, s8_26, s8_29, s8_32, s8_33, s8_34, s8_35, s8_36, s8_39, s8_42, s8_43, s8_44, s8_45, s8_48, s8_49, s8_52, s8_53, s8_56, s8_57, s8_58, s8_59, s8_62, s8_63, s8_66, s8_69, s8_70, s8_71, s8_74, s8_76, s8_79, s8_80, s8_81, s8_83, s8_86, s8_87, s8_88, s8_90, s8_93, s8_94, s8_95, s8_98, s8_101, s8_102, s8_105, s8_108, s8_109, s8_111, s8_114, s8_115, s8_118, s8_119, s8_122, s8_123, s8_124, s8_126, s8_129, s8_130, s8_132, s8_133, s8_136, s8_137, s8_140, s8_141, s8_142, s8_143, s8_146, s8_147, s8_150, s8_154, s8_155, s8_158, s8_161, s8_163, s8_166, s8_167, s8_168, s8_171, s8_174, s8_176, s8_179, s8_180, s8_181, s8_184, s8_187, s8_189, s8_192, s8_193, s8_196, is_O, opt_s, opt_n, cat_0, cat_i, cat_r, true_and, Nat.zero_le, Nat.reduceAdd, Nat.reduceLeDiff, al_I, as_I, rl_R, ln_I, ln_R, nI_add, pk_mul, g_set, set_set, not_false_eq_true, gf0_0, gf0_1, gf0_2, gf1_0, gf1_1, gf1_2, gf1_3, gf1_4, gf1_5, gf1_6, gf1_7, gf1_8, gf1_9, gf1_10, gf1_11, gf2_0, gf2_1, gf2_2, gf3_0, gf3_1, gf4_0, gf4_1, gf4_2, gf5_0, gf5_1, gf5_2, gf5_3, gf6_0, gf6_1, gf6_2, gf6_3, gf6_4, gf6_5, gf6_6, gf7_0, gf7_1, gf7_2, gf7_3, gf7_4, gf7_5, pf0_0, pf0_1, pf0_2, pf1_0, pf1_1, pf1_2, pf1_3, pf1_4, pf1_5, pf1_6, pf1_7, pf1_8, pf1_9, pf1_10, pf1_11, pf2_0, pf2_1, pf2_2, pf3_0, pf3_1, pf4_0, pf4_1, pf4_2, pf5_0, pf5_1, pf5_2, pf5_3, pf6_0, pf6_1, pf6_2, pf6_3, pf6_4, pf6_5, pf6_6, pf7_0, pf7_1, pf7_2, pf7_3, pf7_4, pf7_5, ga]
    rw [if_neg (fun z => absurd ((nI_l1 (by omega) (by omega)).mp z) (by omega))]
    refine m_findHook h1 h2 ht (by omega) hK (fun G hG hKG => ?_)
    have gf2 : ex_g G (a + eO v + 4) = some (cI v f) := (hG.2.2 _ (by omega)).trans gf
    simp only [s8_0, s8_1, s8_4, s8_5, s8_6, s8_9, s8_10, s8_11, s8_12, s8_13, s8_16, s8_17, s8_20, s8_21, s8_22, s8_25, s8_26, s8_29, s8_32, s8_33, s8_34, s8_35, s8_36, s8_39, s8_42, s8_43, s8_44, s8_45, s8_48, s8_49, s8_52, s8_53, s8_56, s8_57, s8_58, s8_59, s8_62, s8_63, s8_66, s8_69, s8_70, s8_71, s8_74, s8_76, s8_79, s8_80, s8_81, s8_83, s8_86, s8_87, s8_88, s8_90, s8_93, s8_94, s8_95, s8_98, s8_101, s8_102, s8_105, s8_108, s8_109, s8_111, s8_114, s8_115, s8_118, s8_119, s8_122, s8_123, s8_124, s8_126, s8_129, s8_130, s8_132, s8_133, s8_136, s8_137, s8_140, s8_141, s8_142, s8_143, s8_146, s8_147, s8_150, s8_154, s8_155, s8_158, s8_161, s8_163, s8_166, s8_167, s8_168, s8_171, s8_174, s8_176, s8_179, s8_180, s8_181, s8_184, s8_187, s8_189, s8_192, s8_193, s8_196, is_O, opt_s, opt_n, cat_0, cat_i, cat_r, true_and, Nat.zero_le, Nat.reduceAdd, Nat.reduceLeDiff, al_I, as_I, rl_R, ln_I, ln_R, nI_add, pk_mul, g_set, set_set, not_false_eq_true, gf0_0, gf0_1, gf0_2, gf1_0, gf1_1, gf1_2, gf1_3, gf1_4, gf1_5, gf1_6, gf1_7, gf1_8, gf1_9, gf1_10, gf1_11, gf2_0, gf2_1, gf2_2, gf3_0, gf3_1, gf4_0, gf4_1, gf4_2, gf5_0, gf5_1, gf5_2, gf5_3, gf6_0, gf6_1, gf6_2, gf6_3, gf6_4, gf6_5, gf6_6, gf7_0, gf7_1, gf7_2, gf7_3, gf7_4, gf7_5, pf0_0, pf0_1, pf0_2, pf1_0, pf1_1, pf1_2, pf1_3, pf1_4, pf1_5, pf1_6, pf1_7, pf1_8, pf1_9, pf1_10, pf1_11, pf2_0, pf2_1, pf2_2, pf3_0, pf3_1, pf4_0, pf4_1, pf4_2, pf5_0, pf5_1, pf5_2, pf5_3, pf6_0, pf6_1, pf6_2, pf6_3, pf6_4, pf6_5, pf6_6, pf7_0, pf7_1, pf7_2, pf7_3, pf7_4, pf7_5, gf2, xi_n (show t < v by omega) (show v < 2147483648 by omega)]
    refine ih (t + 1) _ (upd f t (nI (tHk v t))) (by omega) (by omega) ⟨hG.1.trans hH.1, hG.2.1.trans hH.2.1, fun q hq => ?_⟩ (hKG.set h1 h2 (by omega)) g_set (fun i hi hi2 => ?_)
    · rw [g_ne (by omega), hG.2.2 q (by omega)]
      exact hH.2.2 q hq
    · by_cases hc : i = t
      · rw [hc, pk_us]
      · rw [pk_un hc]
        exact hf i hi (by omega)
/-- from the hooks on -/
theorem l_dg153 {l2 : Value} {S : Nat} (h1 : 1 ≤ v) (h2 : v ≤ 5) (hn : K.1 = a + eO v + 5) (hS : K.2.1 ≤ S) (hK : DK v a (.ref (a + 7 + tC v)) (.ref (a + eO v + 4)) .null .null .null K) (hh : hkC v a K) (ho : ex_g K (a + 7 + tC v) = some (cR 5 (v + 1) (fun r => if okR v r then some (a + hO v ((v - r) / 2)) else none))) (ht : ∀ r, okR v r → TX v r (a + hO v ((v - r) / 2)) K) (hX : ∀ H, H.1 = a + eO v + 9 → H.2.1 ≤ S + 200 → (∀ q, q < a → ex_g H q = ex_g K q) → DG v a H → X none H) : ex_W 8 153 [.ref a, .int (nI v), l2] [] K X := by
  have hC := tC_le h1 h2
  obtain ⟨_, l1, l2⟩ := cLd h1 h2
  have ga := hK.1
  obtain ⟨fc', w', u1, u2, u3, u4⟩ := hK.txt h1 h2
  have i1 : a + 1 < a + eO v + 5 := by omega
  have i2 : a + 1 < a + eO v + 5 + 1 := by omega
  have i3 : a + 1 < a + eO v + 5 + 1 + 1 := by omega
  have i4 : ¬ a + 1 = a := by omega
  have j1 : a < a + eO v + 5 := by omega
  have j2 : a < a + eO v + 5 + 1 := by omega
  have j3 : a < a + eO v + 5 + 1 + 1 := by omega
  simp only [s8_0, s8_1, s8_4, s8_5, s8_6, s8_9, s8_10, s8_11, s8_12, s8_13, s8_16, s8_17, s8_20, s8_21, s8_22, s8_25, s8_26, s8_29, s8_32, s8_33, s8_34, s8_35, s8_36, s8_39, s8_42, s8_43, s8_44, s8_45, s8_48, s8_49, s8_52, s8_53, s8_56, s8_57, s8_58, s8_59, s8_62, s8_63, s8_66, s8_69, s8_70, s8_71, s8_74, s8_76, s8_79, s8_80, s8_81, s8_83, s8_86, s8_87, s8_88, s8_90, s8_93, s8_94, s8_95, s8_98, s8_101, s8_102, s8_105, s8_108, s8_109, s8_111, s8_114, s8_115, s8_118, s8_119, s8_122, s8_123, s8_124, s8_126, s8_129, s8_130, s8_132, s8_133, s8_136, s8_137, s8_140, s8_141, s8_142, s8_143, s8_146, s8_147, s8_150, s8_153, s8_154, s8_155, s8_158, s8_161, s8_163, s8_166, s8_167, s8_168, s8_171, s8_174, s8_176, s8_179, s8_180, s8_181, s8_184, s8_187, s8_189, s8_192, s8_193, s8_196, is_O, opt_s, opt_n, cat_0, cat_i, cat_r, true_and, Nat.zero_le, Nat.reduceAdd, Nat.reduceLeDiff, al_I, as_I, rl_R, ln_I, ln_R, nI_add, pk_mul, g_set, set_set, not_false_eq_true, gf0_0, gf0_1, gf0_2, gf1_0, gf1_1, gf1_2, gf1_3, gf1_4, gf1_5, gf1_6, gf1_7, gf1_8, gf1_9, gf1_10, gf1_11, gf2_0, gf2_1, gf2_2, gf3_0, gf3_1, gf4_0, gf4_1, gf4_2, gf5_0, gf5_1, gf5_2, gf5_3, gf6_0, gf6_1, gf6_2, gf6_3, gf6_4, gf6_5, gf6_6, gf7_0, gf7_1, gf7_2, gf7_3, gf7_4, gf7_5, pf0_0, pf0_1, pf0_2, pf1_0, pf1_1, pf1_2, pf1_3, pf1_4, pf1_5, pf1_6, pf1_7, pf1_8, pf1_9, pf1_10, pf1_11, pf2_0, pf2_1, pf2_2, pf3_0, pf3_1, pf4_0, pf4_1, pf4_2, pf5_0, pf5_1, pf5_2, pf5_3, pf6_0, pf6_1, pf6_2, pf6_3, pf6_4, pf6_5, pf6_6, pf7_0, pf7_1, pf7_2, pf7_3, pf7_4, pf7_5, ga, u1, na_n (show tC v ≤ 100000 by omega), set_1, new_1, hn, g_nl, i1, i2, i3, g_ne i4, j1, j2, j3]
  obtain ⟨p1, p2, p3, p4, p5⟩ := st_np (K := K) (a := a) (E' := a + eO v + 5) (c := .inl (0, tC v, fun _ => 0)) (n := tC v) (c' := oDg v a (.ref (a + 7 + tC v)) (.ref (a + eO v + 4)) (.ref (a + eO v + 5)) .null .null) hn (by omega)
  obtain ⟨q1, q2, q3, q4, q5⟩ := st_np (a := a) (E' := a + eO v + 5 + 1) (c := .inl (0, tC v, fun _ => 0)) (n := tC v) (c' := oDg v a (.ref (a + 7 + tC v)) (.ref (a + eO v + 4)) (.ref (a + eO v + 5)) (.ref (a + eO v + 6)) .null) p1 (by omega)
  obtain ⟨r1, r2, r3, r4, r5⟩ := st_np (a := a) (E' := a + eO v + 5 + 1 + 1) (c := .inl (0, tC v, fun _ => 0)) (n := tC v) (c' := oDg v a (.ref (a + 7 + tC v)) (.ref (a + eO v + 4)) (.ref (a + eO v + 5)) (.ref (a + eO v + 6)) (.ref (a + eO v + 7))) q1 (by omega)
  have hsame : ∀ q, ¬ q = a → q < a + eO v + 5 → ex_g _ q = ex_g K q := fun q z1 z2 => (r5 q z1 (by omega)).trans ((q5 q z1 (by omega)).trans (p5 q z1 (by omega)))
  refine m_findWays (c3 := .ref (a + 7 + tC v)) h1 h2 (by omega) (DK.obj h1 h2 hK r3 (fun q z1 z2 => hsame q (by omega) (by omega))) ?_ ((r5 _ (by omega) (by omega)).trans ((q5 _ (by omega) (by omega)).trans p4)) ((r5 _ (by omega) (by omega)).trans q4) r4 (fun H f5 f6 f7 f8 e1 e2 e3 e4 e5 e6 => ?_)
  · obtain ⟨fh, z1, z2⟩ := hh
    exact ⟨fh, (hsame _ (by omega) (by omega)).trans z1, z2⟩
  · have hs2 : ∀ q, ¬ q = a → q < a + eO v → ex_g H q = ex_g K q := fun q z1 z2 => (e3 q (by omega)).trans (hsame q z1 (by omega))
    have e1' : H.1 = a + eO v + 5 + 1 + 1 + 1 + 1 := e1.trans (congrArg (· + 1) r1)
    have e2' : H.2.1 = K.2.1 + tC v + tC v + tC v + tC v := e2.trans (congrArg (· + tC v) (r2.trans (congrArg (· + tC v) (q2.trans (congrArg (· + tC v) p2)))))
    clear e1 e2 r1 r2 q1 q2 p1 p2
    simp only [s8_0, s8_1, s8_4, s8_5, s8_6, s8_9, s8_10, s8_11, s8_12, s8_13, s8_16, s8_17, s8_20, s8_21, s8_22, s8_25, s8_26, s8_29, s8_32, s8_33, s8_34, s8_35, s8_36, s8_39, s8_42, s8_43, s8_44, s8_45, s8_48, s8_49, s8_52, s8_53, s8_56, s8_57, s8_58, s8_59, s8_62, s8_63, s8_66, s8_69, s8_70, s8_71, s8_74, s8_76, s8_79, s8_80, s8_81, s8_83, s8_86, s8_87, s8_88, s8_90, s8_93, s8_94, s8_95, s8_98, s8_101, s8_102, s8_105, s8_108, s8_109, s8_111, s8_114, s8_115, s8_118, s8_119, s8_122, s8_123, s8_124, s8_126, s8_129, s8_130, s8_132, s8_133, s8_136, s8_137, s8_140, s8_141, s8_142, s8_143, s8_146, s8_147, s8_150, s8_153, s8_154, s8_155, s8_158, s8_161, s8_163, s8_166, s8_167, s8_168, s8_171, s8_174, s8_176, s8_179, s8_180, s8_181, s8_184, s8_187, s8_189, s8_192, s8_193, s8_196, is_O, opt_s, opt_n, cat_0, cat_i, cat_r, true_and, Nat.zero_le, Nat.reduceAdd, Nat.reduceLeDiff, al_I, as_I, rl_R, ln_I, ln_R, nI_add, pk_mul, g_set, set_set, not_false_eq_true, gf0_0, gf0_1, gf0_2, gf1_0, gf1_1, gf1_2, gf1_3, gf1_4, gf1_5, gf1_6, gf1_7, gf1_8, gf1_9, gf1_10, gf1_11, gf2_0, gf2_1, gf2_2, gf3_0, gf3_1, gf4_0, gf4_1, gf4_2, gf5_0, gf5_1, gf5_2, gf5_3, gf6_0, gf6_1, gf6_2, gf6_3, gf6_4, gf6_5, gf6_6, gf7_0, gf7_1, gf7_2, gf7_3, gf7_4, gf7_5, pf0_0, pf0_1, pf0_2, pf1_0, pf1_1, pf1_2, pf1_3, pf1_4, pf1_5, pf1_6, pf1_7, pf1_8, pf1_9, pf1_10, pf1_11, pf2_0, pf2_1, pf2_2, pf3_0, pf3_1, pf4_0, pf4_1, pf4_2, pf5_0, pf5_1, pf5_2, pf5_3, pf6_0, pf6_1, pf6_2, pf6_3, pf6_4, pf6_5, pf6_6, pf7_0, pf7_1, pf7_2, pf7_3, pf7_4, pf7_5]
    refine hX H (by omega) (by omega) (fun q hq => hs2 q (by omega) (by omega)) ⟨e4, ?_, ⟨f5, f6, f7, e5.1, e5.2.1, e5.2.2.1, fun d hd => ?_⟩, (hs2 _ (by omega) (by omega)).trans ho, fun r hr => ?_⟩
    · obtain ⟨fh, z1, z2⟩ := hh
      exact ⟨fh, (e3 _ (by omega)).trans ((hsame _ (by omega) (by omega)).trans z1), z2⟩
    · have hw := (tLw1 h1 h2 hd).2.2.2.2.1
      have a1 := e6.2.1 d hd
      rw [if_pos hw] at a1
      exact ⟨a1, fun hd0 => e6.2.2 d hd hd0 hw⟩
    · obtain ⟨k1, k2, k3, k4⟩ := hO_r h1 h2 hr
      exact (ht r hr).fr (fun q z1 z2 => hs2 q (by omega) (by omega))
end C10
