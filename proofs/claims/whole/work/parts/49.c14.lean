/-! THE CLASS: a State is made and copied -/
theorem dfl4 : ex_dfl 4 = [.null, .null, .null] := by decide +kernel
theorem dfl2 : ex_dfl 2 = [.int 0, .int 0, .null] := by decide +kernel
section C14
variable {h H K : ex_Hp} {X : Option Value → ex_Hp → Prop} {s sh p lo o sh2 p2 lo2 : Nat} {S S2 : Nat → Nat → Nat}
theorem h6f {d1 d2 d3 d4 d5 : ex_AC} {k2 k3 : Nat} (hk : h.1 = s + 1) : (ex_set (ex_set (ex_new (ex_new (ex_set h s d1) d2 k2) d3 k3) (s + 1) d4) s d5).1 = s + 3 ∧ (ex_set (ex_set (ex_new (ex_new (ex_set h s d1) d2 k2) d3 k3) (s + 1) d4) s d5).2.1 = h.2.1 + k2 + k3 ∧ ex_g (ex_set (ex_set (ex_new (ex_new (ex_set h s d1) d2 k2) d3 k3) (s + 1) d4) s d5) s = some d5 ∧ ex_g (ex_set (ex_set (ex_new (ex_new (ex_set h s d1) d2 k2) d3 k3) (s + 1) d4) s d5) (s + 1) = some d4 ∧ ex_g (ex_set (ex_set (ex_new (ex_new (ex_set h s d1) d2 k2) d3 k3) (s + 1) d4) s d5) (s + 2) = some d3 ∧ ∀ q, q < s → ex_g (ex_set (ex_set (ex_new (ex_new (ex_set h s d1) d2 k2) d3 k3) (s + 1) d4) s d5) q = ex_g h q := by
  refine ⟨by simp only [ex_new, ex_set]; omega, rfl, g_set, ?_, ?_, fun q hq => ?_⟩
  · rw [g_ne (by omega), g_set]
  · simp only [ex_g, ex_new, ex_set, hk]
    rw [if_neg (by omega), if_neg (by omega), if_pos (by first | trivial | omega)]
  · simp only [ex_g, ex_new, ex_set, hk]
    rw [if_neg (by omega), if_neg (by omega), if_neg (by omega), if_neg (by omega), if_neg (by omega)]
theorem m_State (hn : h.1 = s + 1) (hs : ex_g h s = some (cO 4 (ex_dfl 4))) (hX : ∀ H, H.1 = s + 9 → H.2.1 = h.2.1 + 224 → (∀ q, q < s → ex_g H q = ex_g h q) → STT s sh 97 2 (fun _ _ => 0) H → X none H) : ex_W 44 0 [.ref s, .ref sh] [] h X := by
  rw [dfl4] at hs
  have j1 : s < s + 1 := by omega
  have j2 : s < s + 1 + 1 := by omega
  have i1 : s + 1 < s + 1 + 1 := by omega
  have i2 : ¬ s = s + 1 := by omega
  have i5 : ¬ s + 1 = s := by omega
  have gN : ∀ (G : ex_Hp) (c : ex_AC) (k : Nat), G.1 = s + 1 → ex_g (ex_new G c k) (s + 1) = some c := fun G c k hG => by rw [← hG]; exact g_new
  simp only [s44_0, s44_1, s44_4, s44_5, s44_6, s44_9, s44_10, s44_13, s44_14, s44_17, s44_20, s44_21, s44_24, s44_26, s44_27, s44_30, s44_31, s44_32, s44_34, s44_38, s44_41, s26_0, s26_1, s26_4, s26_5, s26_7, s26_9, s26_12, is_O, opt_s, opt_n, cat_0, cat_i, cat_r, true_and, Nat.zero_le, Nat.reduceAdd, Nat.reduceLeDiff, al_I, as_I, rl_R, ln_I, ln_R, nI_add, pk_mul, g_set, set_set, not_false_eq_true, gf0_0, gf0_1, gf0_2, gf1_0, gf1_1, gf1_2, gf1_3, gf1_4, gf1_5, gf1_6, gf1_7, gf1_8, gf1_9, gf1_10, gf1_11, gf2_0, gf2_1, gf2_2, gf3_0, gf3_1, gf4_0, gf4_1, gf4_2, gf5_0, gf5_1, gf5_2, gf5_3, gf6_0, gf6_1, gf6_2, gf6_3, gf6_4, gf6_5, gf6_6, gf7_0, gf7_1, gf7_2, gf7_3, gf7_4, gf7_5, pf0_0, pf0_1, pf0_2, pf1_0, pf1_1, pf1_2, pf1_3, pf1_4, pf1_5, pf1_6, pf1_7, pf1_8, pf1_9, pf1_10, pf1_11, pf2_0, pf2_1, pf2_2, pf3_0, pf3_1, pf4_0, pf4_1, pf4_2, pf5_0, pf5_1, pf5_2, pf5_3, pf6_0, pf6_1, pf6_2, pf6_3, pf6_4, pf6_5, pf6_6, pf7_0, pf7_1, pf7_2, pf7_3, pf7_4, pf7_5, hs, dfl2, set_1, new_1, hn, gN, g_nl, j1, j2, i1, g_ne i2, g_ne i5, na_n (show 6 ≤ 100000 by decide)]
  obtain ⟨p1, p2, p3, p4, p5, p6⟩ := h6f (h := h) (s := s) (d1 := cO 4 [.ref sh, .null, .null]) (d2 := cO 2 [.int 0, .int 0, .null]) (d3 := .inl (0, 6, fun _ => 0)) (d4 := cO 2 [.int 0, .int 0, .ref (s + 2)]) (d5 := cO 4 [.ref sh, .ref (s + 1), .null]) (k2 := 3) (k3 := 6) hn
  refine m_tell (p := 97) (lo := 2) (by decide) (by decide) (by decide) p4 p5 (fun f hf => ?_)
  have n1 : ¬ s = s + 2 := by omega
  have n2 : ¬ s = s + 1 := by omega
  have j3 : s < s + 1 + 1 + 1 := by omega
  simp only [s44_0, s44_1, s44_4, s44_5, s44_6, s44_9, s44_10, s44_13, s44_14, s44_17, s44_20, s44_21, s44_24, s44_26, s44_27, s44_30, s44_31, s44_32, s44_34, s44_38, s44_41, is_O, opt_s, opt_n, cat_0, cat_i, cat_r, true_and, Nat.zero_le, Nat.reduceAdd, Nat.reduceLeDiff, al_I, as_I, rl_R, ln_I, ln_R, nI_add, pk_mul, g_set, set_set, not_false_eq_true, gf0_0, gf0_1, gf0_2, gf1_0, gf1_1, gf1_2, gf1_3, gf1_4, gf1_5, gf1_6, gf1_7, gf1_8, gf1_9, gf1_10, gf1_11, gf2_0, gf2_1, gf2_2, gf3_0, gf3_1, gf4_0, gf4_1, gf4_2, gf5_0, gf5_1, gf5_2, gf5_3, gf6_0, gf6_1, gf6_2, gf6_3, gf6_4, gf6_5, gf6_6, gf7_0, gf7_1, gf7_2, gf7_3, gf7_4, gf7_5, pf0_0, pf0_1, pf0_2, pf1_0, pf1_1, pf1_2, pf1_3, pf1_4, pf1_5, pf1_6, pf1_7, pf1_8, pf1_9, pf1_10, pf1_11, pf2_0, pf2_1, pf2_2, pf3_0, pf3_1, pf4_0, pf4_1, pf4_2, pf5_0, pf5_1, pf5_2, pf5_3, pf6_0, pf6_1, pf6_2, pf6_3, pf6_4, pf6_5, pf6_6, pf7_0, pf7_1, pf7_2, pf7_3, pf7_4, pf7_5, set_1, new_1, hn, p3, g_n2l, j3, g_ne n1, g_ne n2, na_n (show 5 ≤ 100000 by decide), na_n (show 42 ≤ 100000 by decide)]
  refine hX _ ?_ ?_ (fun q hq => ?_) ⟨g_set, ?_, ⟨f, ?_, hf⟩, ?_, fun i hi => ⟨fun _ => nI 0, ?_, fun d hd => rfl⟩⟩
  · rw [set_1, new2_1, set_1, set_1, p1]
  · rw [set_2, new2_2, set_2, set_2, p2]
  · rw [g_ne (by omega), g_new2n (by rw [set_1, set_1, p1]; omega), g_ne (by omega), g_ne (by omega), p6 q hq]
  · rw [g_ne (by omega), g_new2n (by rw [set_1, set_1, p1]; omega), g_ne (by omega), g_set]
  · rw [g_ne (by omega), g_new2n (by rw [set_1, set_1, p1]; omega), g_set]
  · rw [g_ne (by omega)]
    have z := g_new2o (h := ex_set (ex_set (ex_set (ex_set (ex_new (ex_new (ex_set h s (cO 4 [.ref sh, .null, .null])) (cO 2 [.int 0, .int 0, .null]) 3) (.inl (0, 6, fun _ => 0)) 6) (s + 1) (cO 2 [.int 0, .int 0, .ref (s + 2)])) s (cO 4 [.ref sh, .ref (s + 1), .null])) (s + 1) (oNum (nI 97) (nI 2) (s + 2))) (s + 2) (cI 6 f)) (N := 5) (K := 42)
    rw [set_1, set_1, p1] at z
    exact z
  · rw [g_ne (by omega)]
    have z := g_new2r (h := ex_set (ex_set (ex_set (ex_set (ex_new (ex_new (ex_set h s (cO 4 [.ref sh, .null, .null])) (cO 2 [.int 0, .int 0, .null]) 3) (.inl (0, 6, fun _ => 0)) 6) (s + 1) (cO 2 [.int 0, .int 0, .ref (s + 2)])) s (cO 4 [.ref sh, .ref (s + 1), .null])) (s + 1) (oNum (nI 97) (nI 2) (s + 2))) (s + 2) (cI 6 f)) (N := 5) (K := 42) hi
    rw [set_1, set_1, p1] at z
    exact z
/-- sums copied one by one -/
def sC (S S2 : Nat → Nat → Nat) (t : Nat) : Nat → Nat → Nat := fun i d => if i < t then S2 i d else S i d
def chA (s : Nat) (h H : ex_Hp) : Prop := H.1 = h.1 ∧ H.2.1 = h.2.1 ∧ ∀ q, q < s ∨ s + 9 ≤ q → ex_g H q = ex_g h q
theorem l_cf (hd : s + 9 ≤ o ∨ o + 9 ≤ s) (hX : ∀ H, chA s h H → STT s sh p lo S2 H → X none H) : ∀ (m t : Nat) (H : ex_Hp), m + t = 5 → chA s h H → STT s sh p lo (sC S S2 t) H → STT o sh2 p2 lo2 S2 H → ex_W 45 31 [.ref s, .ref o, .int (nI t)] [] H X := by
  intro m
  induction m with
  | zero =>
    intro t H hm hH hS hO
    obtain rfl : t = 5 := by omega
    rw [s45_31]
    simp only [s45_0, s45_1, s45_2, s45_5, s45_8, s45_9, s45_12, s45_13, s45_16, s45_19, s45_20, s45_23, s45_26, s45_29, s45_30, s45_32, s45_33, s45_36, s45_37, s45_40, s45_41, s45_42, s45_43, s45_44, s45_47, s45_48, s45_49, s45_50, s45_52, s45_55, s45_58, s45_61, is_O, opt_s, opt_n, cat_0, cat_i, cat_r, true_and, Nat.zero_le, Nat.reduceAdd, Nat.reduceLeDiff, al_I, as_I, rl_R, ln_I, ln_R, nI_add, pk_mul, g_set, set_set, not_false_eq_true, gf0_0, gf0_1, gf0_2, gf1_0, gf1_1, gf1_2, gf1_3, gf1_4, gf1_5, gf1_6, gf1_7, gf1_8, gf1_9, gf1_10, gf1_11, gf2_0, gf2_1, gf2_2, gf3_0, gf3_1, gf4_0, gf4_1, gf4_2, gf5_0, gf5_1, gf5_2, gf5_3, gf6_0, gf6_1, gf6_2, gf6_3, gf6_4, gf6_5, gf6_6, gf7_0, gf7_1, gf7_2, gf7_3, gf7_4, gf7_5, pf0_0, pf0_1, pf0_2, pf1_0, pf1_1, pf1_2, pf1_3, pf1_4, pf1_5, pf1_6, pf1_7, pf1_8, pf1_9, pf1_10, pf1_11, pf2_0, pf2_1, pf2_2, pf3_0, pf3_1, pf4_0, pf4_1, pf4_2, pf5_0, pf5_1, pf5_2, pf5_3, pf6_0, pf6_1, pf6_2, pf6_3, pf6_4, pf6_5, pf6_6, pf7_0, pf7_1, pf7_2, pf7_3, pf7_4, pf7_5]
    rw [if_pos ((nI_l1 (by omega) (by omega)).mpr (by omega))]
    refine hX H hH (hS.ext (fun i hi d hd => ?_))
    unfold sC
    rw [if_pos hi]
  | succ m ih =>
    intro t H hm hH hS hO
    have ht : t < 5 := by omega
    have g1 := hS.1
    have g4 := hS.2.2.2.1
    have k1 := hO.1
    have k4 := hO.2.2.2.1
    obtain ⟨f, b1, b2⟩ := hS.2.2.2.2 t ht
    obtain ⟨f', c1, c2⟩ := hO.2.2.2.2 t ht
    rw [s45_31]
    simp only [s45_0, s45_1, s45_2, s45_5, s45_8, s45_9, s45_12, s45_13, s45_16, s45_19, s45_20, s45_23, s45_26, s45_29, s45_30, s45_32, s45_33, s45_36, s45_37, s45_40, s45_41, s45_42, s45_43, s45_44, s45_47, s45_48, s45_49, s45_50, s45_52, s45_55, s45_58, s45_61, is_O, opt_s, opt_n, cat_0, cat_i, cat_r, true_and, Nat.zero_le, Nat.reduceAdd, Nat.reduceLeDiff, al_I, as_I, rl_R, ln_I, ln_R, nI_add, pk_mul, g_set, set_set, not_false_eq_true, gf0_0, gf0_1, gf0_2, gf1_0, gf1_1, gf1_2, gf1_3, gf1_4, gf1_5, gf1_6, gf1_7, gf1_8, gf1_9, gf1_10, gf1_11, gf2_0, gf2_1, gf2_2, gf3_0, gf3_1, gf4_0, gf4_1, gf4_2, gf5_0, gf5_1, gf5_2, gf5_3, gf6_0, gf6_1, gf6_2, gf6_3, gf6_4, gf6_5, gf6_6, gf7_0, gf7_1, gf7_2, gf7_3, gf7_4, gf7_5, pf0_0, pf0_1, pf0_2, pf1_0, pf1_1, pf1_2, pf1_3, pf1_4, pf1_5, pf1_6, pf1_7, pf1_8, pf1_9, pf1_10, pf1_11, pf2_0, pf2_1, pf2_2, pf3_0, pf3_1, pf4_0, pf4_1, pf4_2, pf5_0, pf5_1, pf5_2, pf5_3, pf6_0, pf6_1, pf6_2, pf6_3, pf6_4, pf6_5, pf6_6, pf7_0, pf7_1, pf7_2, pf7_3, pf7_4, pf7_5, g1, g4, k1, k4, xi_n (show t < 5 by omega) (show 5 < 2147483648 by decide), srow_i ht, b1, c1]
    rw [if_neg (fun z => absurd ((nI_l1 (by omega) (by omega)).mp z) (by omega)), cpy_I (by decide) (by decide) (by decide)]
    refine ih (t + 1) _ (by omega) ⟨hH.1, hH.2.1, fun q hq => by rw [g_ne (by omega)]; exact hH.2.2 q hq⟩ ((hS.row (W := S2 t) ht (fun q hq => g_ne hq) g_set (fun d hd => ?_)).ext (fun i hi d hd => ?_)) (hO.fr (fun q q1 q2 => g_ne (by omega)))
    · rw [pk_cpy_in (by omega) (by omega), show 0 + (d - 0) = d by omega]
      exact c2 d hd
    · unfold sC
      by_cases hc : i = t
      · subst hc
        rw [if_pos rfl, if_pos (by omega)]
      · rw [if_neg hc]
        by_cases hc2 : i < t
        · rw [if_pos hc2, if_pos (by omega)]
        · rw [if_neg hc2, if_neg (by omega)]
theorem m_copyFrom (hp : 2 ≤ p2) (hp2 : p2 ≤ 101) (hlo : lo2 < p2) (hd : s + 9 ≤ o ∨ o + 9 ≤ s) (hS : STT s sh p lo S h) (hO : STT o sh2 p2 lo2 S2 h) (hX : ∀ H, chA s h H → STT s sh2 p2 lo2 S2 H → X none H) : ex_W 45 0 [.ref s, .ref o, oU] [] h X := by
  obtain ⟨a1, a2, ⟨fp, a3, a4⟩, a5, a6⟩ := hS
  obtain ⟨o1, o2, o3, o5, o6⟩ := id hO
  have n1 : ¬ o = s := by omega
  have n2 : ¬ o + 1 = s := by omega
  have n3 : ¬ s + 1 = s := by omega
  have n4 : ¬ s + 2 = s := by omega
  simp only [s45_0, s45_1, s45_2, s45_5, s45_8, s45_9, s45_12, s45_13, s45_16, s45_19, s45_20, s45_23, s45_26, s45_29, s45_30, s45_32, s45_33, s45_36, s45_37, s45_40, s45_41, s45_42, s45_43, s45_44, s45_47, s45_48, s45_49, s45_50, s45_52, s45_55, s45_58, s45_61, is_O, opt_s, opt_n, cat_0, cat_i, cat_r, true_and, Nat.zero_le, Nat.reduceAdd, Nat.reduceLeDiff, al_I, as_I, rl_R, ln_I, ln_R, nI_add, pk_mul, g_set, set_set, not_false_eq_true, gf0_0, gf0_1, gf0_2, gf1_0, gf1_1, gf1_2, gf1_3, gf1_4, gf1_5, gf1_6, gf1_7, gf1_8, gf1_9, gf1_10, gf1_11, gf2_0, gf2_1, gf2_2, gf3_0, gf3_1, gf4_0, gf4_1, gf4_2, gf5_0, gf5_1, gf5_2, gf5_3, gf6_0, gf6_1, gf6_2, gf6_3, gf6_4, gf6_5, gf6_6, gf7_0, gf7_1, gf7_2, gf7_3, gf7_4, gf7_5, pf0_0, pf0_1, pf0_2, pf1_0, pf1_1, pf1_2, pf1_3, pf1_4, pf1_5, pf1_6, pf1_7, pf1_8, pf1_9, pf1_10, pf1_11, pf2_0, pf2_1, pf2_2, pf3_0, pf3_1, pf4_0, pf4_1, pf4_2, pf5_0, pf5_1, pf5_2, pf5_3, pf6_0, pf6_1, pf6_2, pf6_3, pf6_4, pf6_5, pf6_6, pf7_0, pf7_1, pf7_2, pf7_3, pf7_4, pf7_5, a1, o1, g_ne n1, g_ne n2, o2, g_ne n3, a2]
  refine m_tell hp hp2 hlo ((g_ne n3).trans a2) ((g_ne n4).trans a3) (fun f hf => ?_)
  simp only [s45_0, s45_1, s45_2, s45_5, s45_8, s45_9, s45_12, s45_13, s45_16, s45_19, s45_20, s45_23, s45_26, s45_29, s45_30, s45_32, s45_33, s45_36, s45_37, s45_40, s45_41, s45_42, s45_43, s45_44, s45_47, s45_48, s45_49, s45_50, s45_52, s45_55, s45_58, s45_61, is_O, opt_s, opt_n, cat_0, cat_i, cat_r, true_and, Nat.zero_le, Nat.reduceAdd, Nat.reduceLeDiff, al_I, as_I, rl_R, ln_I, ln_R, nI_add, pk_mul, g_set, set_set, not_false_eq_true, gf0_0, gf0_1, gf0_2, gf1_0, gf1_1, gf1_2, gf1_3, gf1_4, gf1_5, gf1_6, gf1_7, gf1_8, gf1_9, gf1_10, gf1_11, gf2_0, gf2_1, gf2_2, gf3_0, gf3_1, gf4_0, gf4_1, gf4_2, gf5_0, gf5_1, gf5_2, gf5_3, gf6_0, gf6_1, gf6_2, gf6_3, gf6_4, gf6_5, gf6_6, gf7_0, gf7_1, gf7_2, gf7_3, gf7_4, gf7_5, pf0_0, pf0_1, pf0_2, pf1_0, pf1_1, pf1_2, pf1_3, pf1_4, pf1_5, pf1_6, pf1_7, pf1_8, pf1_9, pf1_10, pf1_11, pf2_0, pf2_1, pf2_2, pf3_0, pf3_1, pf4_0, pf4_1, pf4_2, pf5_0, pf5_1, pf5_2, pf5_3, pf6_0, pf6_1, pf6_2, pf6_3, pf6_4, pf6_5, pf6_6, pf7_0, pf7_1, pf7_2, pf7_3, pf7_4, pf7_5]
  refine l_cf (h := h) (S := S) (sh := sh2) hd hX 5 0 _ (by omega) ⟨rfl, rfl, fun q hq => by rw [g_ne (by omega), g_ne (by omega), g_ne (by omega)]⟩ ⟨?_, ?_, ⟨f, g_set, hf⟩, ?_, fun i hi => ?_⟩ (hO.fr (fun q q1 q2 => by rw [g_ne (by omega), g_ne (by omega), g_ne (by omega)]))
  · rw [g_ne (by omega), g_ne (by omega), g_set]
  · rw [g_ne (by omega), g_set]
  · rw [g_ne (by omega), g_ne (by omega), g_ne (by omega)]; exact a5
  · obtain ⟨fi, b1, b2⟩ := a6 i hi
    refine ⟨fi, by rw [g_ne (by omega), g_ne (by omega), g_ne (by omega)]; exact b1, fun d hd => ?_⟩
    rw [b2 d hd]
    unfold sC
    rw [if_neg (by omega)]
end C14
