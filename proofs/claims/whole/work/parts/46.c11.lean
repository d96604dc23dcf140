/-! THE CLASS: a Diagrams is made -/
section C11
variable {h H K G : ex_Hp} {X : Option Value → ex_Hp → Prop} {v a S0 : Nat}
theorem l_dg69 {l2 : Value} (h1 : 1 ≤ v) (h2 : v ≤ 5) (hG : hvI v a S0 h (v / 2 + 1) G) (hX : ∀ H, H.1 = a + eO v + 9 → H.2.1 ≤ S0 + 6000 → (∀ q, q < a → ex_g H q = ex_g h q) → DG v a H → X none H) : ex_W 8 69 [.ref a, .int (nI v), l2] [] G X := by
  have hC := tC_le h1 h2
  obtain ⟨_, l1, l2⟩ := cLd h1 h2
  have hCC : tC v * tC v ≤ 42 * 42 := Nat.mul_le_mul hC.2 hC.2
  obtain ⟨g1, g2, g3, g4, g5, g6, g7⟩ := hG
  replace g1 : G.1 = a + eO v := g1
  have g5' := g5
  obtain ⟨t1, _, _, _⟩ := g5'
  rw [l1] at t1
  have i0 : a + 1 < a + eO v := by omega
  have i1 : a + 1 < a + eO v + 1 := by omega
  have i2 : a + 1 < a + eO v + 1 + 1 := by omega
  have i3 : a + 1 < a + eO v + 1 + 1 + 1 := by omega
  have i4 : ¬ a + 1 = a := by omega
  have j0 : a < a + eO v := by omega
  have j1 : a < a + eO v + 1 := by omega
  have j2 : a < a + eO v + 1 + 1 := by omega
  have j3 : a < a + eO v + 1 + 1 + 1 := by omega
  simp only [s8_0, s8_1, s8_4, s8_5, s8_6, s8_9, s8_10, s8_11, s8_12, s8_13, s8_16, s8_17, s8_20, s8_21, s8_22, s8_25, s8_26, s8_29, s8_32, s8_33, s8_34, s8_35, s8_36, s8_39, s8_42, s8_43, s8_44, s8_45, s8_48, s8_49, s8_52, s8_53, s8_56, s8_57, s8_58, s8_59, s8_62, s8_63, s8_66, s8_69, s8_70, s8_71, s8_74, s8_76, s8_79, s8_80, s8_81, s8_83, s8_86, s8_87, s8_88, s8_90, s8_93, s8_94, s8_95, s8_98, s8_101, s8_102, s8_105, s8_108, s8_109, s8_111, s8_114, s8_115, s8_118, s8_119, s8_122, s8_123, s8_124, s8_126, s8_129, s8_130, s8_132, s8_133, s8_136, s8_137, s8_140, s8_141, s8_142, s8_143, s8_146, s8_147, s8_150, s8_153, s8_154, s8_155, s8_158, s8_161, s8_163, s8_166, s8_167, s8_168, s8_171, s8_174, s8_176, s8_179, s8_180, s8_181, s8_184, s8_187, s8_189, s8_192, s8_193, s8_196, is_O, opt_s, opt_n, cat_0, cat_i, cat_r, true_and, Nat.zero_le, Nat.reduceAdd, Nat.reduceLeDiff, al_I, as_I, rl_R, ln_I, ln_R, nI_add, pk_mul, g_set, set_set, not_false_eq_true, gf0_0, gf0_1, gf0_2, gf1_0, gf1_1, gf1_2, gf1_3, gf1_4, gf1_5, gf1_6, gf1_7, gf1_8, gf1_9, gf1_10, gf1_11, gf2_0, gf2_1, gf2_2, gf3_0, gf3_1, gf4_0, gf4_1, gf4_2, gf5_0, gf5_1, gf5_2, gf5_3, gf6_0, gf6_1, gf6_2, gf6_3, gf6_4, gf6_5, gf6_6, gf7_0, gf7_1, gf7_2, gf7_3, gf7_4, gf7_5, pf0_0, pf0_1, pf0_2, pf1_0, pf1_1, pf1_2, pf1_3, pf1_4, pf1_5, pf1_6, pf1_7, pf1_8, pf1_9, pf1_10, pf1_11, pf2_0, pf2_1, pf2_2, pf3_0, pf3_1, pf4_0, pf4_1, pf4_2, pf5_0, pf5_1, pf5_2, pf5_3, pf6_0, pf6_1, pf6_2, pf6_3, pf6_4, pf6_5, pf6_6, pf7_0, pf7_1, pf7_2, pf7_3, pf7_4, pf7_5, g4, t1, na_n (show 2 * v ≤ 100000 by omega), na_n (show v ≤ 100000 by omega), na_n (show tC v * tC v ≤ 100000 by omega), set_1, new_1, g1, g_nl, i0, i1, i2, i3, g_ne i4, j0, j1, j2, j3]
  obtain ⟨p1, p2, p3, p4, p5⟩ := st_np (K := G) (a := a) (E' := a + eO v) (c := .inl (0, 2 * v, fun _ => 0)) (n := 2 * v) (c' := cO 1 [.int (nI v), .int (nI (2 * v)), .ref (a + 1), .ref (a + 7 + tC v), .null, .null, .null, .null, .null, .ref (a + eO v), .null, .null]) g1 j0
  obtain ⟨q1, q2, q3, q4, q5⟩ := st_np (a := a) (E' := a + eO v + 1) (c := .inl (0, v, fun _ => 0)) (n := v) (c' := cO 1 [.int (nI v), .int (nI (2 * v)), .ref (a + 1), .ref (a + 7 + tC v), .null, .null, .null, .null, .null, .ref (a + eO v), .ref (a + eO v + 1), .null]) p1 j1
  obtain ⟨r1, r2, r3, r4, r5⟩ := st_np (a := a) (E' := a + eO v + 1 + 1) (c := .inl (0, v, fun _ => 0)) (n := v) (c' := cO 1 [.int (nI v), .int (nI (2 * v)), .ref (a + 1), .ref (a + 7 + tC v), .null, .null, .null, .null, .null, .ref (a + eO v), .ref (a + eO v + 1), .ref (a + eO v + 1 + 1)]) q1 j2
  obtain ⟨s1, s2, s3, s4, s5⟩ := st_np (a := a) (E' := a + eO v + 1 + 1 + 1) (c := .inl (0, tC v * tC v, fun _ => 0)) (n := tC v * tC v) (c' := cO 1 [.int (nI v), .int (nI (2 * v)), .ref (a + 1), .ref (a + 7 + tC v), .null, .ref (a + eO v + 1 + 1 + 1), .null, .null, .null, .ref (a + eO v), .ref (a + eO v + 1), .ref (a + eO v + 1 + 1)]) r1 j3
  have hsame : ∀ q, ¬ q = a → q < a + eO v → ex_g _ q = ex_g G q := fun q z1 z2 => (s5 q z1 (by omega)).trans ((r5 q z1 (by omega)).trans ((q5 q z1 (by omega)).trans (p5 q z1 (by omega))))
  have s20 := s2.trans (congrArg (· + tC v * tC v) (r2.trans (congrArg (· + v) (q2.trans (congrArg (· + v) p2)))))
  refine m_fill (by omega) s4 (fun F f hF hf hfx => ?_)
  have f1 : F.1 = a + eO v + 1 + 1 + 1 + 1 := hF.1.trans s1
  have f2 : F.2.1 = G.2.1 + 2 * v + v + v + tC v * tC v := hF.2.1.trans s20
  have fs : ∀ q, ¬ q = a → q < a + eO v → ex_g F q = ex_g G q := fun q z1 z2 => (hF.2.2 q (by simp; omega)).trans (hsame q z1 z2)
  have fa : ex_g F a = some (oDg v a (.ref (a + 7 + tC v)) .null .null .null .null) := (hF.2.2 a (by simp; omega)).trans s3
  have f0 : ex_g F (a + eO v) = some (cI (2 * v) (fun _ => 0)) := (hF.2.2 _ (by simp; omega)).trans ((s5 _ (by omega) (by omega)).trans ((r5 _ (by omega) (by omega)).trans ((q5 _ (by omega) (by omega)).trans p4)))
  have f01 : ex_g F (a + eO v + 1) = some (cI v (fun _ => 0)) := (hF.2.2 _ (by simp)).trans ((s5 _ (by omega) (by omega)).trans ((r5 _ (by omega) (by omega)).trans q4))
  have f02 : ex_g F (a + eO v + 2) = some (cI v (fun _ => 0)) := (hF.2.2 _ (by simp)).trans ((s5 _ (by omega) (by omega)).trans r4)
  have hDK : DK v a (.ref (a + 7 + tC v)) .null .null .null .null F := ⟨fa, g5.fr (fun q z1 z2 => fs q (by omega) (by omega)), ⟨f, hf, fun x hx y hy => Or.inl (hfx _ (key_lt hx hy))⟩, ⟨_, f0⟩, ⟨_, f01⟩, ⟨_, f02⟩⟩
  clear s20 s1 s2 s3 s4 s5 r1 r2 r3 r4 r5 q1 q2 q3 q4 q5 p1 p2 p3 p4 p5 hsame
  have j4 : a < a + eO v + 1 + 1 + 1 + 1 := by omega
  simp only [s8_0, s8_1, s8_4, s8_5, s8_6, s8_9, s8_10, s8_11, s8_12, s8_13, s8_16, s8_17, s8_20, s8_21, s8_22, s8_25, s8_26, s8_29, s8_32, s8_33, s8_34, s8_35, s8_36, s8_39, s8_42, s8_43, s8_44, s8_45, s8_48, s8_49, s8_52, s8_53, s8_56, s8_57, s8_58, s8_59, s8_62, s8_63, s8_66, s8_69, s8_70, s8_71, s8_74, s8_76, s8_79, s8_80, s8_81, s8_83, s8_86, s8_87, s8_88, s8_90, s8_93, s8_94, s8_95, s8_98, s8_101, s8_102, s8_105, s8_108, s8_109, s8_111, s8_114, s8_115, s8_118, s8_119, s8_122, s8_123, s8_124, s8_126, s8_129, s8_130, s8_132, s8_133, s8_136, s8_137, s8_140, s8_141, s8_142, s8_143, s8_146, s8_147, s8_150, s8_153, s8_154, s8_155, s8_158, s8_161, s8_163, s8_166, s8_167, s8_168, s8_171, s8_174, s8_176, s8_179, s8_180, s8_181, s8_184, s8_187, s8_189, s8_192, s8_193, s8_196, is_O, opt_s, opt_n, cat_0, cat_i, cat_r, true_and, Nat.zero_le, Nat.reduceAdd, Nat.reduceLeDiff, al_I, as_I, rl_R, ln_I, ln_R, nI_add, pk_mul, g_set, set_set, not_false_eq_true, gf0_0, gf0_1, gf0_2, gf1_0, gf1_1, gf1_2, gf1_3, gf1_4, gf1_5, gf1_6, gf1_7, gf1_8, gf1_9, gf1_10, gf1_11, gf2_0, gf2_1, gf2_2, gf3_0, gf3_1, gf4_0, gf4_1, gf4_2, gf5_0, gf5_1, gf5_2, gf5_3, gf6_0, gf6_1, gf6_2, gf6_3, gf6_4, gf6_5, gf6_6, gf7_0, gf7_1, gf7_2, gf7_3, gf7_4, gf7_5, pf0_0, pf0_1, pf0_2, pf1_0, pf1_1, pf1_2, pf1_3, pf1_4, pf1_5, pf1_6, pf1_7, pf1_8, pf1_9, pf1_10, pf1_11, pf2_0, pf2_1, pf2_2, pf3_0, pf3_1, pf4_0, pf4_1, pf4_2, pf5_0, pf5_1, pf5_2, pf5_3, pf6_0, pf6_1, pf6_2, pf6_3, pf6_4, pf6_5, pf6_6, pf7_0, pf7_1, pf7_2, pf7_3, pf7_4, pf7_5, fa, na_n (show v ≤ 100000 by omega), f1, g_nl, j4]
  obtain ⟨p1, p2, p3, p4, p5⟩ := st_np (K := F) (a := a) (E' := a + eO v + 4) (c := .inl (0, v, fun _ => 0)) (n := v) (c' := oDg v a (.ref (a + 7 + tC v)) (.ref (a + eO v + 4)) .null .null .null) f1 (by omega)
  refine l_hk131 (c3 := .ref (a + 7 + tC v)) h1 h2 (fun H fh l2 hH hKH gh hfh => ?_) (v - 1) 1 _ _ (by omega) (by decide) ⟨rfl, rfl, fun _ _ => rfl⟩ (DK.obj h1 h2 hDK p3 (fun q z1 z2 => p5 q (by omega) (by omega))) p4 (fun i hi hi2 => by omega)
  have hH1 : H.1 = a + eO v + 4 + 1 := hH.1.trans p1
  have hH2 : H.2.1 = F.2.1 + v := hH.2.1.trans p2
  have hs : ∀ q, ¬ q = a → q < a + eO v → ex_g H q = ex_g G q := fun q z1 z2 => (hH.2.2 q (by omega)).trans ((p5 q z1 (by omega)).trans (fs q z1 z2))
  clear hH p1 p2 p3 p4 p5 hF
  have hv2 : v / 2 + 1 ≤ 3 := by omega
  have h800 : 800 * (v / 2 + 1) ≤ 800 * 3 := Nat.mul_le_mul_left _ hv2
  have hS : H.2.1 ≤ S0 + 5000 := by
    have z1 : H.2.1 ≤ G.2.1 + 1800 := by omega
    exact Nat.le_trans z1 (Nat.le_trans (Nat.add_le_add_right g2 1800) (by
      rw [Nat.add_assoc]
      exact Nat.add_le_add_left (Nat.le_trans (Nat.add_le_add_right h800 1800) (by decide)) _))
  refine l_dg153 (S := S0 + 5000) h1 h2 hH1 hS hKH ⟨fh, gh, hfh⟩ ?_ (fun r hr => ?_) (fun E e1 e2 e3 e4 => hX E e1 ?_ (fun q hq => ?_) e4)
  · rw [hs _ (by omega) (by omega), g6]
    refine congrArg (fun f => some (cR 5 (v + 1) f)) (funext fun j => ?_)
    by_cases hc : okR v j
    · rw [if_pos ⟨hc, by omega⟩, if_pos hc]
    · rw [if_neg (fun z => hc z.1), if_neg hc]
  · obtain ⟨k1, k2, k3, k4⟩ := hO_r h1 h2 hr
    exact (g7 r hr (by omega)).fr (fun q z1 z2 => hs q (by omega) (by omega))
  · exact Nat.le_trans e2 (by rw [Nat.add_assoc]; exact Nat.add_le_add_left (by decide) _)
  · rw [e3 q hq, hs q (by omega) (by omega)]
    exact g3 q hq
theorem m_Diagrams (h1 : 1 ≤ v) (h2 : v ≤ 5) (hn : h.1 = a + 1) (ha : ex_g h a = some (cO 1 (ex_dfl 1))) (hX : ∀ H, H.1 = a + eO v + 9 → H.2.1 ≤ h.2.1 + 7000 → (∀ q, q < a → ex_g H q = ex_g h q) → DG v a H → X none H) : ex_W 8 0 [.ref a, .int (nI v), oU] [] h X :=
  l_dg1 h1 h2 hn ha (fun G l2 hG => l_dg69 h1 h2 hG (fun H e1 e2 e3 e4 => hX H e1 (Nat.le_trans e2 (by rw [Nat.add_assoc]; exact Nat.add_le_add_left (by decide) _)) e3 e4))
end C11
