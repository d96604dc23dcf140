/-! THE LAW: its cases -/
section C41
variable {h H : ex_Hp} {X : Option Value → ex_Hp → Prop} {c L i : Nat} {xs : Nat → Int32}
theorem c_strands (hL : LI c L xs h) (hi : i + 5 ≤ L) (hL2 : L ≤ 2560) (hN : ∀ G, LI (c + 1) L xs G → ex_W 161 866 [.ref 0, .ref 1, .ref 63, .int (nI i)] [] G X) : ex_W 161 144 [.ref 0, .ref 1, .ref 63, .int (nI i)] [] h X := by
  have x1 : ∀ {Y : Nat → Prop}, ex_xi (nI (i + 1)) L Y = Y (i + 1) := xi_n (show i + 1 < L by omega) (show L < 2147483648 by omega)
  have x2 : ∀ {Y : Nat → Prop}, ex_xi (nI (i + 2)) L Y = Y (i + 2) := xi_n (show i + 2 < L by omega) (show L < 2147483648 by omega)
  have x3 : ∀ {Y : Nat → Prop}, ex_xi (nI (i + 3)) L Y = Y (i + 3) := xi_n (show i + 3 < L by omega) (show L < 2147483648 by omega)
  have x4 : ∀ {Y : Nat → Prop}, ex_xi (nI (i + 4)) L Y = Y (i + 4) := xi_n (show i + 4 < L by omega) (show L < 2147483648 by omega)
  obtain ⟨⟨s1, s2⟩, o1, _⟩ := hL.ls
  simp only [s161_144, s161_145, s161_146, s161_147, s161_148, s161_149, s161_150, opt_s, opt_n, cat_0, cat_i, cat_r, true_and, Nat.zero_le, Nat.reduceAdd, Nat.reduceLeDiff, al_S, nI_add, x1, x2, x3, x4, eq_self, if_true, s1, o1]
  refine p_strands hL (fun k H hs hw => ?_)
  obtain ⟨t1, t2⟩ := hs
  simp only [s161_153, s161_154, s161_155, s161_156, s161_157, s161_158, s161_159, opt_s, opt_n, cat_0, cat_i, cat_r, true_and, Nat.zero_le, Nat.reduceAdd, Nat.reduceLeDiff, al_S, nI_add, x1, x2, x3, x4, eq_self, if_true, t1, t2]
  refine w_imp (fun r2 h2 hr => ?_) hw
  obtain ⟨rfl, hG⟩ := hr
  simp only [s161_162, opt_s, opt_n, cat_0, cat_i, cat_r, true_and, Nat.zero_le, Nat.reduceAdd, Nat.reduceLeDiff, al_S, nI_add, x1, x2, x3, x4, eq_self, if_true]
  exact hN h2 hG
theorem c_say (hL : LI c L xs h) (hi : i + 5 ≤ L) (hL2 : L ≤ 2560) (hN : ∀ G, LI (c + 1) L xs G → ex_W 161 866 [.ref 0, .ref 1, .ref 63, .int (nI i)] [] G X) : ex_W 161 167 [.ref 0, .ref 1, .ref 63, .int (nI i)] [] h X := by
  have x1 : ∀ {Y : Nat → Prop}, ex_xi (nI (i + 1)) L Y = Y (i + 1) := xi_n (show i + 1 < L by omega) (show L < 2147483648 by omega)
  have x2 : ∀ {Y : Nat → Prop}, ex_xi (nI (i + 2)) L Y = Y (i + 2) := xi_n (show i + 2 < L by omega) (show L < 2147483648 by omega)
  have x3 : ∀ {Y : Nat → Prop}, ex_xi (nI (i + 3)) L Y = Y (i + 3) := xi_n (show i + 3 < L by omega) (show L < 2147483648 by omega)
  have x4 : ∀ {Y : Nat → Prop}, ex_xi (nI (i + 4)) L Y = Y (i + 4) := xi_n (show i + 4 < L by omega) (show L < 2147483648 by omega)
  obtain ⟨⟨s1, s2⟩, o1, _⟩ := hL.ls
  simp only [s161_167, s161_168, s161_169, s161_170, s161_171, s161_172, s161_173, opt_s, opt_n, cat_0, cat_i, cat_r, true_and, Nat.zero_le, Nat.reduceAdd, Nat.reduceLeDiff, al_S, nI_add, x1, x2, x3, x4, eq_self, if_true, s1, o1]
  refine p_say hL (fun k H hs hw => ?_)
  obtain ⟨t1, t2⟩ := hs
  simp only [s161_176, s161_177, s161_178, s161_179, s161_180, s161_181, s161_182, opt_s, opt_n, cat_0, cat_i, cat_r, true_and, Nat.zero_le, Nat.reduceAdd, Nat.reduceLeDiff, al_S, nI_add, x1, x2, x3, x4, eq_self, if_true, t1, t2]
  refine w_imp (fun r2 h2 hr => ?_) hw
  obtain ⟨rfl, hG⟩ := hr
  simp only [s161_185, opt_s, opt_n, cat_0, cat_i, cat_r, true_and, Nat.zero_le, Nat.reduceAdd, Nat.reduceLeDiff, al_S, nI_add, x1, x2, x3, x4, eq_self, if_true]
  exact hN h2 hG
theorem c_wipe (hL : LI c L xs h) (hi : i + 5 ≤ L) (hL2 : L ≤ 2560) (hN : ∀ G, LI (c + 1) L xs G → ex_W 161 866 [.ref 0, .ref 1, .ref 63, .int (nI i)] [] G X) : ex_W 161 190 [.ref 0, .ref 1, .ref 63, .int (nI i)] [] h X := by
  have x1 : ∀ {Y : Nat → Prop}, ex_xi (nI (i + 1)) L Y = Y (i + 1) := xi_n (show i + 1 < L by omega) (show L < 2147483648 by omega)
  have x2 : ∀ {Y : Nat → Prop}, ex_xi (nI (i + 2)) L Y = Y (i + 2) := xi_n (show i + 2 < L by omega) (show L < 2147483648 by omega)
  have x3 : ∀ {Y : Nat → Prop}, ex_xi (nI (i + 3)) L Y = Y (i + 3) := xi_n (show i + 3 < L by omega) (show L < 2147483648 by omega)
  have x4 : ∀ {Y : Nat → Prop}, ex_xi (nI (i + 4)) L Y = Y (i + 4) := xi_n (show i + 4 < L by omega) (show L < 2147483648 by omega)
  obtain ⟨⟨s1, s2⟩, o1, _⟩ := hL.ls
  simp only [s161_190, s161_191, opt_s, opt_n, cat_0, cat_i, cat_r, true_and, Nat.zero_le, Nat.reduceAdd, Nat.reduceLeDiff, al_S, nI_add, x1, x2, x3, x4, eq_self, if_true, s1, o1]
  refine p_wipe hL (fun k H hs hw => ?_)
  obtain ⟨t1, t2⟩ := hs
  simp only [s161_194, s161_195, opt_s, opt_n, cat_0, cat_i, cat_r, true_and, Nat.zero_le, Nat.reduceAdd, Nat.reduceLeDiff, al_S, nI_add, x1, x2, x3, x4, eq_self, if_true, t1, t2]
  refine w_imp (fun r2 h2 hr => ?_) hw
  obtain ⟨rfl, hG⟩ := hr
  simp only [s161_198, opt_s, opt_n, cat_0, cat_i, cat_r, true_and, Nat.zero_le, Nat.reduceAdd, Nat.reduceLeDiff, al_S, nI_add, x1, x2, x3, x4, eq_self, if_true]
  exact hN h2 hG
theorem c_fault (hL : LI c L xs h) (hi : i + 5 ≤ L) (hL2 : L ≤ 2560) (hN : ∀ G, LI (c + 1) L xs G → ex_W 161 866 [.ref 0, .ref 1, .ref 63, .int (nI i)] [] G X) : ex_W 161 203 [.ref 0, .ref 1, .ref 63, .int (nI i)] [] h X := by
  have x1 : ∀ {Y : Nat → Prop}, ex_xi (nI (i + 1)) L Y = Y (i + 1) := xi_n (show i + 1 < L by omega) (show L < 2147483648 by omega)
  have x2 : ∀ {Y : Nat → Prop}, ex_xi (nI (i + 2)) L Y = Y (i + 2) := xi_n (show i + 2 < L by omega) (show L < 2147483648 by omega)
  have x3 : ∀ {Y : Nat → Prop}, ex_xi (nI (i + 3)) L Y = Y (i + 3) := xi_n (show i + 3 < L by omega) (show L < 2147483648 by omega)
  have x4 : ∀ {Y : Nat → Prop}, ex_xi (nI (i + 4)) L Y = Y (i + 4) := xi_n (show i + 4 < L by omega) (show L < 2147483648 by omega)
  obtain ⟨⟨s1, s2⟩, o1, _⟩ := hL.ls
  simp only [s161_203, s161_204, s161_205, s161_206, s161_207, s161_208, s161_209, opt_s, opt_n, cat_0, cat_i, cat_r, true_and, Nat.zero_le, Nat.reduceAdd, Nat.reduceLeDiff, al_S, nI_add, x1, x2, x3, x4, eq_self, if_true, s1, o1]
  refine p_fault hL (fun k H hs hw => ?_)
  obtain ⟨t1, t2⟩ := hs
  simp only [s161_212, s161_213, s161_214, s161_215, s161_216, s161_217, s161_218, opt_s, opt_n, cat_0, cat_i, cat_r, true_and, Nat.zero_le, Nat.reduceAdd, Nat.reduceLeDiff, al_S, nI_add, x1, x2, x3, x4, eq_self, if_true, t1, t2]
  refine w_imp (fun r2 h2 hr => ?_) hw
  obtain ⟨rfl, hG⟩ := hr
  simp only [s161_221, opt_s, opt_n, cat_0, cat_i, cat_r, true_and, Nat.zero_le, Nat.reduceAdd, Nat.reduceLeDiff, al_S, nI_add, x1, x2, x3, x4, eq_self, if_true]
  exact hN h2 hG
theorem c_diagram (hL : LI c L xs h) (hi : i + 5 ≤ L) (hL2 : L ≤ 2560) (hN : ∀ G, LI (c + 1) L xs G → ex_W 161 866 [.ref 0, .ref 1, .ref 63, .int (nI i)] [] G X) : ex_W 161 226 [.ref 0, .ref 1, .ref 63, .int (nI i)] [] h X := by
  have x1 : ∀ {Y : Nat → Prop}, ex_xi (nI (i + 1)) L Y = Y (i + 1) := xi_n (show i + 1 < L by omega) (show L < 2147483648 by omega)
  have x2 : ∀ {Y : Nat → Prop}, ex_xi (nI (i + 2)) L Y = Y (i + 2) := xi_n (show i + 2 < L by omega) (show L < 2147483648 by omega)
  have x3 : ∀ {Y : Nat → Prop}, ex_xi (nI (i + 3)) L Y = Y (i + 3) := xi_n (show i + 3 < L by omega) (show L < 2147483648 by omega)
  have x4 : ∀ {Y : Nat → Prop}, ex_xi (nI (i + 4)) L Y = Y (i + 4) := xi_n (show i + 4 < L by omega) (show L < 2147483648 by omega)
  obtain ⟨⟨s1, s2⟩, o1, _⟩ := hL.ls
  simp only [s161_226, s161_227, opt_s, opt_n, cat_0, cat_i, cat_r, true_and, Nat.zero_le, Nat.reduceAdd, Nat.reduceLeDiff, al_S, nI_add, x1, x2, x3, x4, eq_self, if_true, s1, o1]
  refine p_diagram hL (fun k H hs hw => ?_)
  obtain ⟨t1, t2⟩ := hs
  simp only [s161_230, s161_231, opt_s, opt_n, cat_0, cat_i, cat_r, true_and, Nat.zero_le, Nat.reduceAdd, Nat.reduceLeDiff, al_S, nI_add, x1, x2, x3, x4, eq_self, if_true, t1, t2]
  refine w_imp (fun r2 h2 hr => ?_) hw
  obtain ⟨rfl, hG⟩ := hr
  simp only [s161_234, opt_s, opt_n, cat_0, cat_i, cat_r, true_and, Nat.zero_le, Nat.reduceAdd, Nat.reduceLeDiff, al_S, nI_add, x1, x2, x3, x4, eq_self, if_true]
  exact hN h2 hG
theorem c_word (hL : LI c L xs h) (hi : i + 5 ≤ L) (hL2 : L ≤ 2560) (hN : ∀ G, LI (c + 1) L xs G → ex_W 161 866 [.ref 0, .ref 1, .ref 63, .int (nI i)] [] G X) : ex_W 161 239 [.ref 0, .ref 1, .ref 63, .int (nI i)] [] h X := by
  have x1 : ∀ {Y : Nat → Prop}, ex_xi (nI (i + 1)) L Y = Y (i + 1) := xi_n (show i + 1 < L by omega) (show L < 2147483648 by omega)
  have x2 : ∀ {Y : Nat → Prop}, ex_xi (nI (i + 2)) L Y = Y (i + 2) := xi_n (show i + 2 < L by omega) (show L < 2147483648 by omega)
  have x3 : ∀ {Y : Nat → Prop}, ex_xi (nI (i + 3)) L Y = Y (i + 3) := xi_n (show i + 3 < L by omega) (show L < 2147483648 by omega)
  have x4 : ∀ {Y : Nat → Prop}, ex_xi (nI (i + 4)) L Y = Y (i + 4) := xi_n (show i + 4 < L by omega) (show L < 2147483648 by omega)
  obtain ⟨⟨s1, s2⟩, o1, _⟩ := hL.ls
  simp only [s161_239, s161_240, s161_241, s161_242, s161_243, s161_244, s161_245, opt_s, opt_n, cat_0, cat_i, cat_r, true_and, Nat.zero_le, Nat.reduceAdd, Nat.reduceLeDiff, al_S, nI_add, x1, x2, x3, x4, eq_self, if_true, s1, o1]
  refine p_word hL (fun k H hs hw => ?_)
  obtain ⟨t1, t2⟩ := hs
  simp only [s161_248, s161_249, s161_250, s161_251, s161_252, s161_253, s161_254, opt_s, opt_n, cat_0, cat_i, cat_r, true_and, Nat.zero_le, Nat.reduceAdd, Nat.reduceLeDiff, al_S, nI_add, x1, x2, x3, x4, eq_self, if_true, t1, t2]
  refine w_imp (fun r2 h2 hr => ?_) hw
  obtain ⟨rfl, hG⟩ := hr
  simp only [s161_257, opt_s, opt_n, cat_0, cat_i, cat_r, true_and, Nat.zero_le, Nat.reduceAdd, Nat.reduceLeDiff, al_S, nI_add, x1, x2, x3, x4, eq_self, if_true]
  exact hN h2 hG
theorem c_of (hL : LI c L xs h) (hi : i + 5 ≤ L) (hL2 : L ≤ 2560) (hN : ∀ G, LI (c + 1) L xs G → ex_W 161 866 [.ref 0, .ref 1, .ref 63, .int (nI i)] [] G X) : ex_W 161 262 [.ref 0, .ref 1, .ref 63, .int (nI i)] [] h X := by
  have x1 : ∀ {Y : Nat → Prop}, ex_xi (nI (i + 1)) L Y = Y (i + 1) := xi_n (show i + 1 < L by omega) (show L < 2147483648 by omega)
  have x2 : ∀ {Y : Nat → Prop}, ex_xi (nI (i + 2)) L Y = Y (i + 2) := xi_n (show i + 2 < L by omega) (show L < 2147483648 by omega)
  have x3 : ∀ {Y : Nat → Prop}, ex_xi (nI (i + 3)) L Y = Y (i + 3) := xi_n (show i + 3 < L by omega) (show L < 2147483648 by omega)
  have x4 : ∀ {Y : Nat → Prop}, ex_xi (nI (i + 4)) L Y = Y (i + 4) := xi_n (show i + 4 < L by omega) (show L < 2147483648 by omega)
  obtain ⟨⟨s1, s2⟩, o1, _⟩ := hL.ls
  simp only [s161_262, s161_263, s161_264, s161_265, s161_266, s161_267, s161_268, s161_269, s161_270, s161_271, s161_272, s161_273, opt_s, opt_n, cat_0, cat_i, cat_r, true_and, Nat.zero_le, Nat.reduceAdd, Nat.reduceLeDiff, al_S, nI_add, x1, x2, x3, x4, eq_self, if_true, s1, o1]
  refine p_of hL (fun k H hs hw => ?_)
  obtain ⟨t1, t2⟩ := hs
  simp only [s161_276, s161_277, s161_278, s161_279, s161_280, s161_281, s161_282, s161_283, s161_284, s161_285, s161_286, s161_287, opt_s, opt_n, cat_0, cat_i, cat_r, true_and, Nat.zero_le, Nat.reduceAdd, Nat.reduceLeDiff, al_S, nI_add, x1, x2, x3, x4, eq_self, if_true, t1, t2]
  refine w_imp (fun r2 h2 hr => ?_) hw
  obtain ⟨rfl, hG⟩ := hr
  simp only [s161_290, opt_s, opt_n, cat_0, cat_i, cat_r, true_and, Nat.zero_le, Nat.reduceAdd, Nat.reduceLeDiff, al_S, nI_add, x1, x2, x3, x4, eq_self, if_true]
  exact hN h2 hG
theorem c_joined (hL : LI c L xs h) (hi : i + 5 ≤ L) (hL2 : L ≤ 2560) (hN : ∀ G, LI (c + 1) L xs G → ex_W 161 866 [.ref 0, .ref 1, .ref 63, .int (nI i)] [] G X) : ex_W 161 295 [.ref 0, .ref 1, .ref 63, .int (nI i)] [] h X := by
  have x1 : ∀ {Y : Nat → Prop}, ex_xi (nI (i + 1)) L Y = Y (i + 1) := xi_n (show i + 1 < L by omega) (show L < 2147483648 by omega)
  have x2 : ∀ {Y : Nat → Prop}, ex_xi (nI (i + 2)) L Y = Y (i + 2) := xi_n (show i + 2 < L by omega) (show L < 2147483648 by omega)
  have x3 : ∀ {Y : Nat → Prop}, ex_xi (nI (i + 3)) L Y = Y (i + 3) := xi_n (show i + 3 < L by omega) (show L < 2147483648 by omega)
  have x4 : ∀ {Y : Nat → Prop}, ex_xi (nI (i + 4)) L Y = Y (i + 4) := xi_n (show i + 4 < L by omega) (show L < 2147483648 by omega)
  obtain ⟨⟨s1, s2⟩, o1, _⟩ := hL.ls
  simp only [s161_295, s161_296, s161_297, s161_298, s161_299, s161_300, s161_301, s161_302, s161_303, s161_304, s161_305, s161_306, opt_s, opt_n, cat_0, cat_i, cat_r, true_and, Nat.zero_le, Nat.reduceAdd, Nat.reduceLeDiff, al_S, nI_add, x1, x2, x3, x4, eq_self, if_true, s1, o1]
  refine p_joined hL (fun k H hs hw => ?_)
  obtain ⟨t1, t2⟩ := hs
  simp only [s161_309, s161_310, s161_311, s161_312, s161_313, s161_314, s161_315, s161_316, s161_317, s161_318, s161_319, s161_320, opt_s, opt_n, cat_0, cat_i, cat_r, true_and, Nat.zero_le, Nat.reduceAdd, Nat.reduceLeDiff, al_S, nI_add, x1, x2, x3, x4, eq_self, if_true, t1, t2]
  refine w_imp (fun r2 h2 hr => ?_) hw
  obtain ⟨rfl, hG⟩ := hr
  simp only [s161_323, opt_s, opt_n, cat_0, cat_i, cat_r, true_and, Nat.zero_le, Nat.reduceAdd, Nat.reduceLeDiff, al_S, nI_add, x1, x2, x3, x4, eq_self, if_true]
  exact hN h2 hG
theorem c_stack (hL : LI c L xs h) (hi : i + 5 ≤ L) (hL2 : L ≤ 2560) (hN : ∀ G, LI (c + 1) L xs G → ex_W 161 866 [.ref 0, .ref 1, .ref 63, .int (nI i)] [] G X) : ex_W 161 328 [.ref 0, .ref 1, .ref 63, .int (nI i)] [] h X := by
  have x1 : ∀ {Y : Nat → Prop}, ex_xi (nI (i + 1)) L Y = Y (i + 1) := xi_n (show i + 1 < L by omega) (show L < 2147483648 by omega)
  have x2 : ∀ {Y : Nat → Prop}, ex_xi (nI (i + 2)) L Y = Y (i + 2) := xi_n (show i + 2 < L by omega) (show L < 2147483648 by omega)
  have x3 : ∀ {Y : Nat → Prop}, ex_xi (nI (i + 3)) L Y = Y (i + 3) := xi_n (show i + 3 < L by omega) (show L < 2147483648 by omega)
  have x4 : ∀ {Y : Nat → Prop}, ex_xi (nI (i + 4)) L Y = Y (i + 4) := xi_n (show i + 4 < L by omega) (show L < 2147483648 by omega)
  obtain ⟨⟨s1, s2⟩, o1, _⟩ := hL.ls
  simp only [s161_328, s161_329, s161_330, s161_331, s161_332, s161_333, s161_334, s161_335, s161_336, s161_337, s161_338, s161_339, s161_340, s161_341, s161_342, s161_343, s161_344, opt_s, opt_n, cat_0, cat_i, cat_r, true_and, Nat.zero_le, Nat.reduceAdd, Nat.reduceLeDiff, al_S, nI_add, x1, x2, x3, x4, eq_self, if_true, s1, o1]
  refine p_stack hL (fun k H hs hw => ?_)
  obtain ⟨t1, t2⟩ := hs
  simp only [s161_347, s161_348, s161_349, s161_350, s161_351, s161_352, s161_353, s161_354, s161_355, s161_356, s161_357, s161_358, s161_359, s161_360, s161_361, s161_362, s161_363, opt_s, opt_n, cat_0, cat_i, cat_r, true_and, Nat.zero_le, Nat.reduceAdd, Nat.reduceLeDiff, al_S, nI_add, x1, x2, x3, x4, eq_self, if_true, t1, t2]
  refine w_imp (fun r2 h2 hr => ?_) hw
  obtain ⟨rfl, hG⟩ := hr
  simp only [s161_366, opt_s, opt_n, cat_0, cat_i, cat_r, true_and, Nat.zero_le, Nat.reduceAdd, Nat.reduceLeDiff, al_S, nI_add, x1, x2, x3, x4, eq_self, if_true]
  exact hN h2 hG
theorem c_way (hL : LI c L xs h) (hi : i + 5 ≤ L) (hL2 : L ≤ 2560) (hN : ∀ G, LI (c + 1) L xs G → ex_W 161 866 [.ref 0, .ref 1, .ref 63, .int (nI i)] [] G X) : ex_W 161 371 [.ref 0, .ref 1, .ref 63, .int (nI i)] [] h X := by
  have x1 : ∀ {Y : Nat → Prop}, ex_xi (nI (i + 1)) L Y = Y (i + 1) := xi_n (show i + 1 < L by omega) (show L < 2147483648 by omega)
  have x2 : ∀ {Y : Nat → Prop}, ex_xi (nI (i + 2)) L Y = Y (i + 2) := xi_n (show i + 2 < L by omega) (show L < 2147483648 by omega)
  have x3 : ∀ {Y : Nat → Prop}, ex_xi (nI (i + 3)) L Y = Y (i + 3) := xi_n (show i + 3 < L by omega) (show L < 2147483648 by omega)
  have x4 : ∀ {Y : Nat → Prop}, ex_xi (nI (i + 4)) L Y = Y (i + 4) := xi_n (show i + 4 < L by omega) (show L < 2147483648 by omega)
  obtain ⟨⟨s1, s2⟩, o1, _⟩ := hL.ls
  simp only [s161_371, s161_372, s161_373, s161_374, s161_375, s161_376, s161_377, s161_378, s161_379, s161_380, s161_381, s161_382, opt_s, opt_n, cat_0, cat_i, cat_r, true_and, Nat.zero_le, Nat.reduceAdd, Nat.reduceLeDiff, al_S, nI_add, x1, x2, x3, x4, eq_self, if_true, s1, o1]
  refine p_way hL (fun k H hs hw => ?_)
  obtain ⟨t1, t2⟩ := hs
  simp only [s161_385, s161_386, s161_387, s161_388, s161_389, s161_390, s161_391, s161_392, s161_393, s161_394, s161_395, s161_396, opt_s, opt_n, cat_0, cat_i, cat_r, true_and, Nat.zero_le, Nat.reduceAdd, Nat.reduceLeDiff, al_S, nI_add, x1, x2, x3, x4, eq_self, if_true, t1, t2]
  refine w_imp (fun r2 h2 hr => ?_) hw
  obtain ⟨rfl, hG⟩ := hr
  simp only [s161_399, opt_s, opt_n, cat_0, cat_i, cat_r, true_and, Nat.zero_le, Nat.reduceAdd, Nat.reduceLeDiff, al_S, nI_add, x1, x2, x3, x4, eq_self, if_true]
  exact hN h2 hG
theorem c_prime (hL : LI c L xs h) (hi : i + 5 ≤ L) (hL2 : L ≤ 2560) (hN : ∀ G, LI (c + 1) L xs G → ex_W 161 866 [.ref 0, .ref 1, .ref 63, .int (nI i)] [] G X) : ex_W 161 404 [.ref 0, .ref 1, .ref 63, .int (nI i)] [] h X := by
  have x1 : ∀ {Y : Nat → Prop}, ex_xi (nI (i + 1)) L Y = Y (i + 1) := xi_n (show i + 1 < L by omega) (show L < 2147483648 by omega)
  have x2 : ∀ {Y : Nat → Prop}, ex_xi (nI (i + 2)) L Y = Y (i + 2) := xi_n (show i + 2 < L by omega) (show L < 2147483648 by omega)
  have x3 : ∀ {Y : Nat → Prop}, ex_xi (nI (i + 3)) L Y = Y (i + 3) := xi_n (show i + 3 < L by omega) (show L < 2147483648 by omega)
  have x4 : ∀ {Y : Nat → Prop}, ex_xi (nI (i + 4)) L Y = Y (i + 4) := xi_n (show i + 4 < L by omega) (show L < 2147483648 by omega)
  obtain ⟨⟨s1, s2⟩, o1, _⟩ := hL.ls
  simp only [s161_404, s161_405, s161_406, s161_407, s161_408, s161_409, s161_410, s161_411, s161_412, s161_413, s161_414, s161_415, opt_s, opt_n, cat_0, cat_i, cat_r, true_and, Nat.zero_le, Nat.reduceAdd, Nat.reduceLeDiff, al_S, nI_add, x1, x2, x3, x4, eq_self, if_true, s1, o1]
  refine p_prime hL (fun k H hs hw => ?_)
  obtain ⟨t1, t2⟩ := hs
  simp only [s161_418, s161_419, s161_420, s161_421, s161_422, s161_423, s161_424, s161_425, s161_426, s161_427, s161_428, s161_429, opt_s, opt_n, cat_0, cat_i, cat_r, true_and, Nat.zero_le, Nat.reduceAdd, Nat.reduceLeDiff, al_S, nI_add, x1, x2, x3, x4, eq_self, if_true, t1, t2]
  refine w_imp (fun r2 h2 hr => ?_) hw
  obtain ⟨rfl, hG⟩ := hr
  simp only [s161_432, opt_s, opt_n, cat_0, cat_i, cat_r, true_and, Nat.zero_le, Nat.reduceAdd, Nat.reduceLeDiff, al_S, nI_add, x1, x2, x3, x4, eq_self, if_true]
  exact hN h2 hG
theorem c_put (hL : LI c L xs h) (hi : i + 5 ≤ L) (hL2 : L ≤ 2560) (hN : ∀ G, LI (c + 1) L xs G → ex_W 161 866 [.ref 0, .ref 1, .ref 63, .int (nI i)] [] G X) : ex_W 161 437 [.ref 0, .ref 1, .ref 63, .int (nI i)] [] h X := by
  have x1 : ∀ {Y : Nat → Prop}, ex_xi (nI (i + 1)) L Y = Y (i + 1) := xi_n (show i + 1 < L by omega) (show L < 2147483648 by omega)
  have x2 : ∀ {Y : Nat → Prop}, ex_xi (nI (i + 2)) L Y = Y (i + 2) := xi_n (show i + 2 < L by omega) (show L < 2147483648 by omega)
  have x3 : ∀ {Y : Nat → Prop}, ex_xi (nI (i + 3)) L Y = Y (i + 3) := xi_n (show i + 3 < L by omega) (show L < 2147483648 by omega)
  have x4 : ∀ {Y : Nat → Prop}, ex_xi (nI (i + 4)) L Y = Y (i + 4) := xi_n (show i + 4 < L by omega) (show L < 2147483648 by omega)
  obtain ⟨⟨s1, s2⟩, o1, _⟩ := hL.ls
  simp only [s161_437, s161_438, s161_439, s161_440, s161_441, s161_442, s161_443, s161_444, s161_445, s161_446, s161_447, s161_448, s161_449, s161_450, s161_451, s161_452, s161_453, opt_s, opt_n, cat_0, cat_i, cat_r, true_and, Nat.zero_le, Nat.reduceAdd, Nat.reduceLeDiff, al_S, nI_add, x1, x2, x3, x4, eq_self, if_true, s1, o1]
  refine p_put hL (fun k H hs hw => ?_)
  obtain ⟨t1, t2⟩ := hs
  simp only [s161_456, s161_457, s161_458, s161_459, s161_460, s161_461, s161_462, s161_463, s161_464, s161_465, s161_466, s161_467, s161_468, s161_469, s161_470, s161_471, s161_472, opt_s, opt_n, cat_0, cat_i, cat_r, true_and, Nat.zero_le, Nat.reduceAdd, Nat.reduceLeDiff, al_S, nI_add, x1, x2, x3, x4, eq_self, if_true, t1, t2]
  refine w_imp (fun r2 h2 hr => ?_) hw
  obtain ⟨rfl, hG⟩ := hr
  simp only [s161_475, opt_s, opt_n, cat_0, cat_i, cat_r, true_and, Nat.zero_le, Nat.reduceAdd, Nat.reduceLeDiff, al_S, nI_add, x1, x2, x3, x4, eq_self, if_true]
  exact hN h2 hG
theorem c_at (hL : LI c L xs h) (hi : i + 5 ≤ L) (hL2 : L ≤ 2560) (hN : ∀ G, LI (c + 1) L xs G → ex_W 161 866 [.ref 0, .ref 1, .ref 63, .int (nI i)] [] G X) : ex_W 161 480 [.ref 0, .ref 1, .ref 63, .int (nI i)] [] h X := by
  have x1 : ∀ {Y : Nat → Prop}, ex_xi (nI (i + 1)) L Y = Y (i + 1) := xi_n (show i + 1 < L by omega) (show L < 2147483648 by omega)
  have x2 : ∀ {Y : Nat → Prop}, ex_xi (nI (i + 2)) L Y = Y (i + 2) := xi_n (show i + 2 < L by omega) (show L < 2147483648 by omega)
  have x3 : ∀ {Y : Nat → Prop}, ex_xi (nI (i + 3)) L Y = Y (i + 3) := xi_n (show i + 3 < L by omega) (show L < 2147483648 by omega)
  have x4 : ∀ {Y : Nat → Prop}, ex_xi (nI (i + 4)) L Y = Y (i + 4) := xi_n (show i + 4 < L by omega) (show L < 2147483648 by omega)
  obtain ⟨⟨s1, s2⟩, o1, _⟩ := hL.ls
  simp only [s161_480, s161_481, s161_482, s161_483, s161_484, s161_485, s161_486, s161_487, s161_488, s161_489, s161_490, s161_491, opt_s, opt_n, cat_0, cat_i, cat_r, true_and, Nat.zero_le, Nat.reduceAdd, Nat.reduceLeDiff, al_S, nI_add, x1, x2, x3, x4, eq_self, if_true, s1, o1]
  refine p_at hL (fun k H hs hw => ?_)
  obtain ⟨t1, t2⟩ := hs
  simp only [s161_494, s161_495, s161_496, s161_497, s161_498, s161_499, s161_500, s161_501, s161_502, s161_503, s161_504, s161_505, opt_s, opt_n, cat_0, cat_i, cat_r, true_and, Nat.zero_le, Nat.reduceAdd, Nat.reduceLeDiff, al_S, nI_add, x1, x2, x3, x4, eq_self, if_true, t1, t2]
  refine w_imp (fun r2 h2 hr => ?_) hw
  obtain ⟨rfl, hG⟩ := hr
  simp only [s161_508, opt_s, opt_n, cat_0, cat_i, cat_r, true_and, Nat.zero_le, Nat.reduceAdd, Nat.reduceLeDiff, al_S, nI_add, x1, x2, x3, x4, eq_self, if_true]
  exact hN h2 hG
theorem c_both (hL : LI c L xs h) (hi : i + 5 ≤ L) (hL2 : L ≤ 2560) (hN : ∀ G, LI (c + 1) L xs G → ex_W 161 866 [.ref 0, .ref 1, .ref 63, .int (nI i)] [] G X) : ex_W 161 513 [.ref 0, .ref 1, .ref 63, .int (nI i)] [] h X := by
  have x1 : ∀ {Y : Nat → Prop}, ex_xi (nI (i + 1)) L Y = Y (i + 1) := xi_n (show i + 1 < L by omega) (show L < 2147483648 by omega)
  have x2 : ∀ {Y : Nat → Prop}, ex_xi (nI (i + 2)) L Y = Y (i + 2) := xi_n (show i + 2 < L by omega) (show L < 2147483648 by omega)
  have x3 : ∀ {Y : Nat → Prop}, ex_xi (nI (i + 3)) L Y = Y (i + 3) := xi_n (show i + 3 < L by omega) (show L < 2147483648 by omega)
  have x4 : ∀ {Y : Nat → Prop}, ex_xi (nI (i + 4)) L Y = Y (i + 4) := xi_n (show i + 4 < L by omega) (show L < 2147483648 by omega)
  obtain ⟨⟨s1, s2⟩, o1, _⟩ := hL.ls
  simp only [s161_513, s161_514, s161_515, s161_516, s161_517, s161_518, s161_519, s161_520, s161_521, s161_522, s161_523, s161_524, s161_525, s161_526, s161_527, s161_528, s161_529, s161_530, s161_531, s161_532, s161_533, s161_534, opt_s, opt_n, cat_0, cat_i, cat_r, true_and, Nat.zero_le, Nat.reduceAdd, Nat.reduceLeDiff, al_S, nI_add, x1, x2, x3, x4, eq_self, if_true, s1, o1]
  refine p_both hL (fun k H hs hw => ?_)
  obtain ⟨t1, t2⟩ := hs
  simp only [s161_537, s161_538, s161_539, s161_540, s161_541, s161_542, s161_543, s161_544, s161_545, s161_546, s161_547, s161_548, s161_549, s161_550, s161_551, s161_552, s161_553, s161_554, s161_555, s161_556, s161_557, s161_558, opt_s, opt_n, cat_0, cat_i, cat_r, true_and, Nat.zero_le, Nat.reduceAdd, Nat.reduceLeDiff, al_S, nI_add, x1, x2, x3, x4, eq_self, if_true, t1, t2]
  refine w_imp (fun r2 h2 hr => ?_) hw
  obtain ⟨rfl, hG⟩ := hr
  simp only [s161_561, opt_s, opt_n, cat_0, cat_i, cat_r, true_and, Nat.zero_le, Nat.reduceAdd, Nat.reduceLeDiff, al_S, nI_add, x1, x2, x3, x4, eq_self, if_true]
  exact hN h2 hG
theorem c_times (hL : LI c L xs h) (hi : i + 5 ≤ L) (hL2 : L ≤ 2560) (hN : ∀ G, LI (c + 1) L xs G → ex_W 161 866 [.ref 0, .ref 1, .ref 63, .int (nI i)] [] G X) : ex_W 161 566 [.ref 0, .ref 1, .ref 63, .int (nI i)] [] h X := by
  have x1 : ∀ {Y : Nat → Prop}, ex_xi (nI (i + 1)) L Y = Y (i + 1) := xi_n (show i + 1 < L by omega) (show L < 2147483648 by omega)
  have x2 : ∀ {Y : Nat → Prop}, ex_xi (nI (i + 2)) L Y = Y (i + 2) := xi_n (show i + 2 < L by omega) (show L < 2147483648 by omega)
  have x3 : ∀ {Y : Nat → Prop}, ex_xi (nI (i + 3)) L Y = Y (i + 3) := xi_n (show i + 3 < L by omega) (show L < 2147483648 by omega)
  have x4 : ∀ {Y : Nat → Prop}, ex_xi (nI (i + 4)) L Y = Y (i + 4) := xi_n (show i + 4 < L by omega) (show L < 2147483648 by omega)
  obtain ⟨⟨s1, s2⟩, o1, _⟩ := hL.ls
  simp only [s161_566, s161_567, s161_568, s161_569, s161_570, s161_571, s161_572, s161_573, s161_574, s161_575, s161_576, s161_577, s161_578, s161_579, s161_580, s161_581, s161_582, opt_s, opt_n, cat_0, cat_i, cat_r, true_and, Nat.zero_le, Nat.reduceAdd, Nat.reduceLeDiff, al_S, nI_add, x1, x2, x3, x4, eq_self, if_true, s1, o1]
  refine p_times hL (fun k H hs hw => ?_)
  obtain ⟨t1, t2⟩ := hs
  simp only [s161_585, s161_586, s161_587, s161_588, s161_589, s161_590, s161_591, s161_592, s161_593, s161_594, s161_595, s161_596, s161_597, s161_598, s161_599, s161_600, s161_601, opt_s, opt_n, cat_0, cat_i, cat_r, true_and, Nat.zero_le, Nat.reduceAdd, Nat.reduceLeDiff, al_S, nI_add, x1, x2, x3, x4, eq_self, if_true, t1, t2]
  refine w_imp (fun r2 h2 hr => ?_) hw
  obtain ⟨rfl, hG⟩ := hr
  simp only [s161_604, opt_s, opt_n, cat_0, cat_i, cat_r, true_and, Nat.zero_le, Nat.reduceAdd, Nat.reduceLeDiff, al_S, nI_add, x1, x2, x3, x4, eq_self, if_true]
  exact hN h2 hG
theorem c_turn (hL : LI c L xs h) (hi : i + 5 ≤ L) (hL2 : L ≤ 2560) (hN : ∀ G, LI (c + 1) L xs G → ex_W 161 866 [.ref 0, .ref 1, .ref 63, .int (nI i)] [] G X) : ex_W 161 609 [.ref 0, .ref 1, .ref 63, .int (nI i)] [] h X := by
  have x1 : ∀ {Y : Nat → Prop}, ex_xi (nI (i + 1)) L Y = Y (i + 1) := xi_n (show i + 1 < L by omega) (show L < 2147483648 by omega)
  have x2 : ∀ {Y : Nat → Prop}, ex_xi (nI (i + 2)) L Y = Y (i + 2) := xi_n (show i + 2 < L by omega) (show L < 2147483648 by omega)
  have x3 : ∀ {Y : Nat → Prop}, ex_xi (nI (i + 3)) L Y = Y (i + 3) := xi_n (show i + 3 < L by omega) (show L < 2147483648 by omega)
  have x4 : ∀ {Y : Nat → Prop}, ex_xi (nI (i + 4)) L Y = Y (i + 4) := xi_n (show i + 4 < L by omega) (show L < 2147483648 by omega)
  obtain ⟨⟨s1, s2⟩, o1, _⟩ := hL.ls
  simp only [s161_609, s161_610, s161_611, s161_612, s161_613, s161_614, s161_615, s161_616, s161_617, s161_618, s161_619, s161_620, opt_s, opt_n, cat_0, cat_i, cat_r, true_and, Nat.zero_le, Nat.reduceAdd, Nat.reduceLeDiff, al_S, nI_add, x1, x2, x3, x4, eq_self, if_true, s1, o1]
  refine p_turn hL (fun k H hs hw => ?_)
  obtain ⟨t1, t2⟩ := hs
  simp only [s161_623, s161_624, s161_625, s161_626, s161_627, s161_628, s161_629, s161_630, s161_631, s161_632, s161_633, s161_634, opt_s, opt_n, cat_0, cat_i, cat_r, true_and, Nat.zero_le, Nat.reduceAdd, Nat.reduceLeDiff, al_S, nI_add, x1, x2, x3, x4, eq_self, if_true, t1, t2]
  refine w_imp (fun r2 h2 hr => ?_) hw
  obtain ⟨rfl, hG⟩ := hr
  simp only [s161_637, opt_s, opt_n, cat_0, cat_i, cat_r, true_and, Nat.zero_le, Nat.reduceAdd, Nat.reduceLeDiff, al_S, nI_add, x1, x2, x3, x4, eq_self, if_true]
  exact hN h2 hG
theorem c_trace (hL : LI c L xs h) (hi : i + 5 ≤ L) (hL2 : L ≤ 2560) (hN : ∀ G, LI (c + 1) L xs G → ex_W 161 866 [.ref 0, .ref 1, .ref 63, .int (nI i)] [] G X) : ex_W 161 642 [.ref 0, .ref 1, .ref 63, .int (nI i)] [] h X := by
  have x1 : ∀ {Y : Nat → Prop}, ex_xi (nI (i + 1)) L Y = Y (i + 1) := xi_n (show i + 1 < L by omega) (show L < 2147483648 by omega)
  have x2 : ∀ {Y : Nat → Prop}, ex_xi (nI (i + 2)) L Y = Y (i + 2) := xi_n (show i + 2 < L by omega) (show L < 2147483648 by omega)
  have x3 : ∀ {Y : Nat → Prop}, ex_xi (nI (i + 3)) L Y = Y (i + 3) := xi_n (show i + 3 < L by omega) (show L < 2147483648 by omega)
  have x4 : ∀ {Y : Nat → Prop}, ex_xi (nI (i + 4)) L Y = Y (i + 4) := xi_n (show i + 4 < L by omega) (show L < 2147483648 by omega)
  obtain ⟨⟨s1, s2⟩, o1, _⟩ := hL.ls
  simp only [s161_642, s161_643, s161_644, s161_645, s161_646, s161_647, s161_648, opt_s, opt_n, cat_0, cat_i, cat_r, true_and, Nat.zero_le, Nat.reduceAdd, Nat.reduceLeDiff, al_S, nI_add, x1, x2, x3, x4, eq_self, if_true, s1, o1]
  refine p_trace hL (fun k H hs hw => ?_)
  obtain ⟨t1, t2⟩ := hs
  simp only [s161_651, s161_652, s161_653, s161_654, s161_655, s161_656, s161_657, opt_s, opt_n, cat_0, cat_i, cat_r, true_and, Nat.zero_le, Nat.reduceAdd, Nat.reduceLeDiff, al_S, nI_add, x1, x2, x3, x4, eq_self, if_true, t1, t2]
  refine w_imp (fun r2 h2 hr => ?_) hw
  obtain ⟨rfl, hG⟩ := hr
  simp only [s161_660, opt_s, opt_n, cat_0, cat_i, cat_r, true_and, Nat.zero_le, Nat.reduceAdd, Nat.reduceLeDiff, al_S, nI_add, x1, x2, x3, x4, eq_self, if_true]
  exact hN h2 hG
theorem c_bracket (hL : LI c L xs h) (hi : i + 5 ≤ L) (hL2 : L ≤ 2560) (hN : ∀ G, LI (c + 1) L xs G → ex_W 161 866 [.ref 0, .ref 1, .ref 63, .int (nI i)] [] G X) : ex_W 161 665 [.ref 0, .ref 1, .ref 63, .int (nI i)] [] h X := by
  have x1 : ∀ {Y : Nat → Prop}, ex_xi (nI (i + 1)) L Y = Y (i + 1) := xi_n (show i + 1 < L by omega) (show L < 2147483648 by omega)
  have x2 : ∀ {Y : Nat → Prop}, ex_xi (nI (i + 2)) L Y = Y (i + 2) := xi_n (show i + 2 < L by omega) (show L < 2147483648 by omega)
  have x3 : ∀ {Y : Nat → Prop}, ex_xi (nI (i + 3)) L Y = Y (i + 3) := xi_n (show i + 3 < L by omega) (show L < 2147483648 by omega)
  have x4 : ∀ {Y : Nat → Prop}, ex_xi (nI (i + 4)) L Y = Y (i + 4) := xi_n (show i + 4 < L by omega) (show L < 2147483648 by omega)
  obtain ⟨⟨s1, s2⟩, o1, _⟩ := hL.ls
  simp only [s161_665, s161_666, s161_667, s161_668, s161_669, s161_670, s161_671, opt_s, opt_n, cat_0, cat_i, cat_r, true_and, Nat.zero_le, Nat.reduceAdd, Nat.reduceLeDiff, al_S, nI_add, x1, x2, x3, x4, eq_self, if_true, s1, o1]
  refine p_bracket hL (fun k H hs hw => ?_)
  obtain ⟨t1, t2⟩ := hs
  simp only [s161_674, s161_675, s161_676, s161_677, s161_678, s161_679, s161_680, opt_s, opt_n, cat_0, cat_i, cat_r, true_and, Nat.zero_le, Nat.reduceAdd, Nat.reduceLeDiff, al_S, nI_add, x1, x2, x3, x4, eq_self, if_true, t1, t2]
  refine w_imp (fun r2 h2 hr => ?_) hw
  obtain ⟨rfl, hG⟩ := hr
  simp only [s161_683, opt_s, opt_n, cat_0, cat_i, cat_r, true_and, Nat.zero_le, Nat.reduceAdd, Nat.reduceLeDiff, al_S, nI_add, x1, x2, x3, x4, eq_self, if_true]
  exact hN h2 hG
theorem c_project (hL : LI c L xs h) (hi : i + 5 ≤ L) (hL2 : L ≤ 2560) (hN : ∀ G, LI (c + 1) L xs G → ex_W 161 866 [.ref 0, .ref 1, .ref 63, .int (nI i)] [] G X) : ex_W 161 688 [.ref 0, .ref 1, .ref 63, .int (nI i)] [] h X := by
  have x1 : ∀ {Y : Nat → Prop}, ex_xi (nI (i + 1)) L Y = Y (i + 1) := xi_n (show i + 1 < L by omega) (show L < 2147483648 by omega)
  have x2 : ∀ {Y : Nat → Prop}, ex_xi (nI (i + 2)) L Y = Y (i + 2) := xi_n (show i + 2 < L by omega) (show L < 2147483648 by omega)
  have x3 : ∀ {Y : Nat → Prop}, ex_xi (nI (i + 3)) L Y = Y (i + 3) := xi_n (show i + 3 < L by omega) (show L < 2147483648 by omega)
  have x4 : ∀ {Y : Nat → Prop}, ex_xi (nI (i + 4)) L Y = Y (i + 4) := xi_n (show i + 4 < L by omega) (show L < 2147483648 by omega)
  obtain ⟨⟨s1, s2⟩, o1, _⟩ := hL.ls
  simp only [s161_688, s161_689, s161_690, s161_691, s161_692, s161_693, s161_694, s161_695, s161_696, s161_697, s161_698, s161_699, opt_s, opt_n, cat_0, cat_i, cat_r, true_and, Nat.zero_le, Nat.reduceAdd, Nat.reduceLeDiff, al_S, nI_add, x1, x2, x3, x4, eq_self, if_true, s1, o1]
  refine p_project hL (fun k H hs hw => ?_)
  obtain ⟨t1, t2⟩ := hs
  simp only [s161_702, s161_703, s161_704, s161_705, s161_706, s161_707, s161_708, s161_709, s161_710, s161_711, s161_712, s161_713, opt_s, opt_n, cat_0, cat_i, cat_r, true_and, Nat.zero_le, Nat.reduceAdd, Nat.reduceLeDiff, al_S, nI_add, x1, x2, x3, x4, eq_self, if_true, t1, t2]
  refine w_imp (fun r2 h2 hr => ?_) hw
  obtain ⟨rfl, hG⟩ := hr
  simp only [s161_716, opt_s, opt_n, cat_0, cat_i, cat_r, true_and, Nat.zero_le, Nat.reduceAdd, Nat.reduceLeDiff, al_S, nI_add, x1, x2, x3, x4, eq_self, if_true]
  exact hN h2 hG
theorem c_cell (hL : LI c L xs h) (hi : i + 5 ≤ L) (hL2 : L ≤ 2560) (hN : ∀ G, LI (c + 1) L xs G → ex_W 161 866 [.ref 0, .ref 1, .ref 63, .int (nI i)] [] G X) : ex_W 161 721 [.ref 0, .ref 1, .ref 63, .int (nI i)] [] h X := by
  have x1 : ∀ {Y : Nat → Prop}, ex_xi (nI (i + 1)) L Y = Y (i + 1) := xi_n (show i + 1 < L by omega) (show L < 2147483648 by omega)
  have x2 : ∀ {Y : Nat → Prop}, ex_xi (nI (i + 2)) L Y = Y (i + 2) := xi_n (show i + 2 < L by omega) (show L < 2147483648 by omega)
  have x3 : ∀ {Y : Nat → Prop}, ex_xi (nI (i + 3)) L Y = Y (i + 3) := xi_n (show i + 3 < L by omega) (show L < 2147483648 by omega)
  have x4 : ∀ {Y : Nat → Prop}, ex_xi (nI (i + 4)) L Y = Y (i + 4) := xi_n (show i + 4 < L by omega) (show L < 2147483648 by omega)
  obtain ⟨⟨s1, s2⟩, o1, _⟩ := hL.ls
  simp only [s161_721, s161_722, s161_723, s161_724, s161_725, s161_726, s161_727, s161_728, s161_729, s161_730, s161_731, s161_732, opt_s, opt_n, cat_0, cat_i, cat_r, true_and, Nat.zero_le, Nat.reduceAdd, Nat.reduceLeDiff, al_S, nI_add, x1, x2, x3, x4, eq_self, if_true, s1, o1]
  refine p_cell hL (fun k H hs hw => ?_)
  obtain ⟨t1, t2⟩ := hs
  simp only [s161_735, s161_736, s161_737, s161_738, s161_739, s161_740, s161_741, s161_742, s161_743, s161_744, s161_745, s161_746, opt_s, opt_n, cat_0, cat_i, cat_r, true_and, Nat.zero_le, Nat.reduceAdd, Nat.reduceLeDiff, al_S, nI_add, x1, x2, x3, x4, eq_self, if_true, t1, t2]
  refine w_imp (fun r2 h2 hr => ?_) hw
  obtain ⟨rfl, hG⟩ := hr
  simp only [s161_749, opt_s, opt_n, cat_0, cat_i, cat_r, true_and, Nat.zero_le, Nat.reduceAdd, Nat.reduceLeDiff, al_S, nI_add, x1, x2, x3, x4, eq_self, if_true]
  exact hN h2 hG
theorem c_form (hL : LI c L xs h) (hi : i + 5 ≤ L) (hL2 : L ≤ 2560) (hN : ∀ G, LI (c + 1) L xs G → ex_W 161 866 [.ref 0, .ref 1, .ref 63, .int (nI i)] [] G X) : ex_W 161 754 [.ref 0, .ref 1, .ref 63, .int (nI i)] [] h X := by
  have x1 : ∀ {Y : Nat → Prop}, ex_xi (nI (i + 1)) L Y = Y (i + 1) := xi_n (show i + 1 < L by omega) (show L < 2147483648 by omega)
  have x2 : ∀ {Y : Nat → Prop}, ex_xi (nI (i + 2)) L Y = Y (i + 2) := xi_n (show i + 2 < L by omega) (show L < 2147483648 by omega)
  have x3 : ∀ {Y : Nat → Prop}, ex_xi (nI (i + 3)) L Y = Y (i + 3) := xi_n (show i + 3 < L by omega) (show L < 2147483648 by omega)
  have x4 : ∀ {Y : Nat → Prop}, ex_xi (nI (i + 4)) L Y = Y (i + 4) := xi_n (show i + 4 < L by omega) (show L < 2147483648 by omega)
  obtain ⟨⟨s1, s2⟩, o1, _⟩ := hL.ls
  simp only [s161_754, s161_755, s161_756, s161_757, s161_758, s161_759, s161_760, s161_761, s161_762, s161_763, s161_764, s161_765, s161_766, s161_767, s161_768, s161_769, s161_770, opt_s, opt_n, cat_0, cat_i, cat_r, true_and, Nat.zero_le, Nat.reduceAdd, Nat.reduceLeDiff, al_S, nI_add, x1, x2, x3, x4, eq_self, if_true, s1, o1]
  refine p_form hL (fun k H hs hw => ?_)
  obtain ⟨t1, t2⟩ := hs
  simp only [s161_773, s161_774, s161_775, s161_776, s161_777, s161_778, s161_779, s161_780, s161_781, s161_782, s161_783, s161_784, s161_785, s161_786, s161_787, s161_788, s161_789, opt_s, opt_n, cat_0, cat_i, cat_r, true_and, Nat.zero_le, Nat.reduceAdd, Nat.reduceLeDiff, al_S, nI_add, x1, x2, x3, x4, eq_self, if_true, t1, t2]
  refine w_imp (fun r2 h2 hr => ?_) hw
  obtain ⟨rfl, hG⟩ := hr
  simp only [s161_792, opt_s, opt_n, cat_0, cat_i, cat_r, true_and, Nat.zero_le, Nat.reduceAdd, Nat.reduceLeDiff, al_S, nI_add, x1, x2, x3, x4, eq_self, if_true]
  exact hN h2 hG
theorem c_image (hL : LI c L xs h) (hi : i + 5 ≤ L) (hL2 : L ≤ 2560) (hN : ∀ G, LI (c + 1) L xs G → ex_W 161 866 [.ref 0, .ref 1, .ref 63, .int (nI i)] [] G X) : ex_W 161 797 [.ref 0, .ref 1, .ref 63, .int (nI i)] [] h X := by
  have x1 : ∀ {Y : Nat → Prop}, ex_xi (nI (i + 1)) L Y = Y (i + 1) := xi_n (show i + 1 < L by omega) (show L < 2147483648 by omega)
  have x2 : ∀ {Y : Nat → Prop}, ex_xi (nI (i + 2)) L Y = Y (i + 2) := xi_n (show i + 2 < L by omega) (show L < 2147483648 by omega)
  have x3 : ∀ {Y : Nat → Prop}, ex_xi (nI (i + 3)) L Y = Y (i + 3) := xi_n (show i + 3 < L by omega) (show L < 2147483648 by omega)
  have x4 : ∀ {Y : Nat → Prop}, ex_xi (nI (i + 4)) L Y = Y (i + 4) := xi_n (show i + 4 < L by omega) (show L < 2147483648 by omega)
  obtain ⟨⟨s1, s2⟩, o1, _⟩ := hL.ls
  simp only [s161_797, s161_798, s161_799, s161_800, s161_801, s161_802, s161_803, opt_s, opt_n, cat_0, cat_i, cat_r, true_and, Nat.zero_le, Nat.reduceAdd, Nat.reduceLeDiff, al_S, nI_add, x1, x2, x3, x4, eq_self, if_true, s1, o1]
  refine p_image hL (fun k H hs hw => ?_)
  obtain ⟨t1, t2⟩ := hs
  simp only [s161_806, s161_807, s161_808, s161_809, s161_810, s161_811, s161_812, opt_s, opt_n, cat_0, cat_i, cat_r, true_and, Nat.zero_le, Nat.reduceAdd, Nat.reduceLeDiff, al_S, nI_add, x1, x2, x3, x4, eq_self, if_true, t1, t2]
  refine w_imp (fun r2 h2 hr => ?_) hw
  obtain ⟨rfl, hG⟩ := hr
  simp only [s161_815, opt_s, opt_n, cat_0, cat_i, cat_r, true_and, Nat.zero_le, Nat.reduceAdd, Nat.reduceLeDiff, al_S, nI_add, x1, x2, x3, x4, eq_self, if_true]
  exact hN h2 hG
theorem c_restore (hL : LI c L xs h) (hi : i + 5 ≤ L) (hL2 : L ≤ 2560) (hN : ∀ G, LI (c + 1) L xs G → ex_W 161 866 [.ref 0, .ref 1, .ref 63, .int (nI i)] [] G X) : ex_W 161 820 [.ref 0, .ref 1, .ref 63, .int (nI i)] [] h X := by
  have x1 : ∀ {Y : Nat → Prop}, ex_xi (nI (i + 1)) L Y = Y (i + 1) := xi_n (show i + 1 < L by omega) (show L < 2147483648 by omega)
  have x2 : ∀ {Y : Nat → Prop}, ex_xi (nI (i + 2)) L Y = Y (i + 2) := xi_n (show i + 2 < L by omega) (show L < 2147483648 by omega)
  have x3 : ∀ {Y : Nat → Prop}, ex_xi (nI (i + 3)) L Y = Y (i + 3) := xi_n (show i + 3 < L by omega) (show L < 2147483648 by omega)
  have x4 : ∀ {Y : Nat → Prop}, ex_xi (nI (i + 4)) L Y = Y (i + 4) := xi_n (show i + 4 < L by omega) (show L < 2147483648 by omega)
  obtain ⟨⟨s1, s2⟩, o1, _⟩ := hL.ls
  simp only [s161_820, s161_821, s161_822, s161_823, s161_824, s161_825, s161_826, opt_s, opt_n, cat_0, cat_i, cat_r, true_and, Nat.zero_le, Nat.reduceAdd, Nat.reduceLeDiff, al_S, nI_add, x1, x2, x3, x4, eq_self, if_true, s1, o1]
  refine p_restore hL (fun k H hs hw => ?_)
  obtain ⟨t1, t2⟩ := hs
  simp only [s161_829, s161_830, s161_831, s161_832, s161_833, s161_834, s161_835, opt_s, opt_n, cat_0, cat_i, cat_r, true_and, Nat.zero_le, Nat.reduceAdd, Nat.reduceLeDiff, al_S, nI_add, x1, x2, x3, x4, eq_self, if_true, t1, t2]
  refine w_imp (fun r2 h2 hr => ?_) hw
  obtain ⟨rfl, hG⟩ := hr
  simp only [s161_838, opt_s, opt_n, cat_0, cat_i, cat_r, true_and, Nat.zero_le, Nat.reduceAdd, Nat.reduceLeDiff, al_S, nI_add, x1, x2, x3, x4, eq_self, if_true]
  exact hN h2 hG
theorem c_count (hL : LI c L xs h) (hi : i + 5 ≤ L) (hL2 : L ≤ 2560) (hN : ∀ G, LI (c + 1) L xs G → ex_W 161 866 [.ref 0, .ref 1, .ref 63, .int (nI i)] [] G X) : ex_W 161 843 [.ref 0, .ref 1, .ref 63, .int (nI i)] [] h X := by
  have x1 : ∀ {Y : Nat → Prop}, ex_xi (nI (i + 1)) L Y = Y (i + 1) := xi_n (show i + 1 < L by omega) (show L < 2147483648 by omega)
  have x2 : ∀ {Y : Nat → Prop}, ex_xi (nI (i + 2)) L Y = Y (i + 2) := xi_n (show i + 2 < L by omega) (show L < 2147483648 by omega)
  have x3 : ∀ {Y : Nat → Prop}, ex_xi (nI (i + 3)) L Y = Y (i + 3) := xi_n (show i + 3 < L by omega) (show L < 2147483648 by omega)
  have x4 : ∀ {Y : Nat → Prop}, ex_xi (nI (i + 4)) L Y = Y (i + 4) := xi_n (show i + 4 < L by omega) (show L < 2147483648 by omega)
  obtain ⟨⟨s1, s2⟩, o1, _⟩ := hL.ls
  simp only [s161_843, s161_844, s161_845, s161_846, s161_847, s161_848, s161_849, opt_s, opt_n, cat_0, cat_i, cat_r, true_and, Nat.zero_le, Nat.reduceAdd, Nat.reduceLeDiff, al_S, nI_add, x1, x2, x3, x4, eq_self, if_true, s1, o1]
  refine p_count hL (fun k H hs hw => ?_)
  obtain ⟨t1, t2⟩ := hs
  simp only [s161_852, s161_853, s161_854, s161_855, s161_856, s161_857, s161_858, opt_s, opt_n, cat_0, cat_i, cat_r, true_and, Nat.zero_le, Nat.reduceAdd, Nat.reduceLeDiff, al_S, nI_add, x1, x2, x3, x4, eq_self, if_true, t1, t2]
  refine w_imp (fun r2 h2 hr => ?_) hw
  obtain ⟨rfl, hG⟩ := hr
  simp only [s161_861, opt_s, opt_n, cat_0, cat_i, cat_r, true_and, Nat.zero_le, Nat.reduceAdd, Nat.reduceLeDiff, al_S, nI_add, x1, x2, x3, x4, eq_self, if_true]
  exact hN h2 hG
end C41
