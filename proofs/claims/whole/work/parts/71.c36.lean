/-! THE CLASS IS MADE -/
theorem dfl7 : ex_dfl 7 = [.null, .null, .null, .null, .null, .null] := by decide +kernel
def C0 (h : ex_Hp) : Prop := h.1 = 63 ∧ ex_g h 1 = some (cO 7 [.ref 2, .ref 4, .ref 42, .ref 51, .ref 52, .ref 56]) ∧ ex_g h 4 = some (cR 3 6 (va_up (fun _ => none) 3 (some 5))) ∧ ex_g h 51 = some (cR 4 2 (fun _ => none)) ∧ DG 3 5 h ∧ BS 0 (fun _ => 0) 5 97 2 (fun _ _ => 0) h
section C36
variable {h H K : ex_Hp} {X : Option Value → ex_Hp → Prop} {o5 : Value}
theorem g_newe {c : ex_AC} {k q : Nat} (he : h.1 = q) : ex_g (ex_new h c k) q = some c := by
  subst he
  exact g_new
theorem l_in74 (hn : h.1 = 56) (g1 : ex_g h 1 = some (cO 7 [.ref 2, .ref 4, .ref 42, .ref 51, .ref 52, o5])) (g2 : ex_g h 2 = some (oPd 3 0)) (g3 : ex_g h 3 = some (cI 24 (fun _ => 0))) (g4 : ex_g h 4 = some (cR 3 6 (va_up (fun _ => none) 3 (some 5)))) (g51 : ex_g h 51 = some (cR 4 2 (fun _ => none))) (hD : DG 3 5 h) (hS : STT 42 5 97 2 (fun _ _ => 0) h) (g52 : ex_g h 52 = some (oAl 52)) (i1 : isI 53 h) (i2 : isI 54 h) (i3 : isI 55 h) (hX : ∀ H, C0 H → H.2.1 ≤ h.2.1 + 100 → ex_g H 0 = ex_g h 0 → X none H) : ex_W 60 74 [.ref 1] [] h X := by
  have e3 := eO_3
  simp only [s60_0, s60_1, s60_4, s60_5, s60_8, s60_9, s60_12, s60_15, s60_16, s60_18, s60_21, s60_24, s60_25, s60_28, s60_29, s60_32, s60_33, s60_34, s60_37, s60_38, s60_39, s60_42, s60_43, s60_44, s60_47, s60_48, s60_49, s60_52, s60_55, s60_56, s60_57, s60_60, s60_63, s60_64, s60_67, s60_68, s60_71, s60_74, s60_75, s60_78, s60_79, s60_82, s60_85, is_O, opt_s, opt_n, cat_0, cat_i, cat_r, true_and, Nat.zero_le, Nat.reduceAdd, Nat.reduceLeDiff, al_I, as_I, rl_R, ln_I, ln_R, nI_add, pk_mul, g_set, set_set, not_false_eq_true, gf0_0, gf0_1, gf0_2, gf1_0, gf1_1, gf1_2, gf1_3, gf1_4, gf1_5, gf1_6, gf1_7, gf1_8, gf1_9, gf1_10, gf1_11, gf2_0, gf2_1, gf2_2, gf3_0, gf3_1, gf4_0, gf4_1, gf4_2, gf5_0, gf5_1, gf5_2, gf5_3, gf6_0, gf6_1, gf6_2, gf6_3, gf6_4, gf6_5, gf6_6, gf7_0, gf7_1, gf7_2, gf7_3, gf7_4, gf7_5, pf0_0, pf0_1, pf0_2, pf1_0, pf1_1, pf1_2, pf1_3, pf1_4, pf1_5, pf1_6, pf1_7, pf1_8, pf1_9, pf1_10, pf1_11, pf2_0, pf2_1, pf2_2, pf3_0, pf3_1, pf4_0, pf4_1, pf4_2, pf5_0, pf5_1, pf5_2, pf5_3, pf6_0, pf6_1, pf6_2, pf6_3, pf6_4, pf6_5, pf6_6, pf7_0, pf7_1, pf7_2, pf7_3, pf7_4, pf7_5, hn]
  refine m_Table (tb := 56) (by rw [new_1, hn]) (g_newe hn) (fun K k1 k2 k3 k4 k5 => ?_)
  have hq : ∀ q, q < 56 → ex_g K q = ex_g h q := fun q hq => (k3 q hq).trans (g_nl (by omega))
  have o1 := (hq 1 (by omega)).trans g1
  simp only [s60_0, s60_1, s60_4, s60_5, s60_8, s60_9, s60_12, s60_15, s60_16, s60_18, s60_21, s60_24, s60_25, s60_28, s60_29, s60_32, s60_33, s60_34, s60_37, s60_38, s60_39, s60_42, s60_43, s60_44, s60_47, s60_48, s60_49, s60_52, s60_55, s60_56, s60_57, s60_60, s60_63, s60_64, s60_67, s60_68, s60_71, s60_74, s60_75, s60_78, s60_79, s60_82, s60_85, is_O, opt_s, opt_n, cat_0, cat_i, cat_r, true_and, Nat.zero_le, Nat.reduceAdd, Nat.reduceLeDiff, al_I, as_I, rl_R, ln_I, ln_R, nI_add, pk_mul, g_set, set_set, not_false_eq_true, gf0_0, gf0_1, gf0_2, gf1_0, gf1_1, gf1_2, gf1_3, gf1_4, gf1_5, gf1_6, gf1_7, gf1_8, gf1_9, gf1_10, gf1_11, gf2_0, gf2_1, gf2_2, gf3_0, gf3_1, gf4_0, gf4_1, gf4_2, gf5_0, gf5_1, gf5_2, gf5_3, gf6_0, gf6_1, gf6_2, gf6_3, gf6_4, gf6_5, gf6_6, gf7_0, gf7_1, gf7_2, gf7_3, gf7_4, gf7_5, pf0_0, pf0_1, pf0_2, pf1_0, pf1_1, pf1_2, pf1_3, pf1_4, pf1_5, pf1_6, pf1_7, pf1_8, pf1_9, pf1_10, pf1_11, pf2_0, pf2_1, pf2_2, pf3_0, pf3_1, pf4_0, pf4_1, pf4_2, pf5_0, pf5_1, pf5_2, pf5_3, pf6_0, pf6_1, pf6_2, pf6_3, pf6_4, pf6_5, pf6_6, pf7_0, pf7_1, pf7_2, pf7_3, pf7_4, pf7_5, o1]
  have hr : ∀ q, q < 63 → ¬ q = 1 → ex_g (ex_set K 1 (cO 7 [.ref 2, .ref 4, .ref 42, .ref 51, .ref 52, .ref 56])) q = ex_g K q := fun q _ z => g_ne z
  have hs : ∀ q, q < 56 → ¬ q = 1 → ex_g (ex_set K 1 (cO 7 [.ref 2, .ref 4, .ref 42, .ref 51, .ref 52, .ref 56])) q = ex_g h q := fun q z1 z2 => (hr q (by omega) z2).trans (hq q z1)
  obtain ⟨f1, i1⟩ := i1
  obtain ⟨f2, i2⟩ := i2
  obtain ⟨f3, i3⟩ := i3
  obtain ⟨T, k5⟩ := k5
  refine hX _ ⟨k1, g_set, (hs _ (by omega) (by omega)).trans g4, (hs _ (by omega) (by omega)).trans g51, hD.fr (by decide) (by decide) (fun q z1 z2 => hs q (by omega) (by omega)), (hs _ (by omega) (by omega)).trans g2, (hs _ (by omega) (by omega)).trans g3, hS.fr (fun q z1 z2 => hs q (by omega) (by omega)), (hs _ (by omega) (by omega)).trans g52, ⟨⟨f1, (hs _ (by omega) (by omega)).trans i1⟩, ⟨f2, (hs _ (by omega) (by omega)).trans i2⟩, ⟨f3, (hs _ (by omega) (by omega)).trans i3⟩⟩, ⟨0, 0, 0, (hr _ (by omega) (by omega)).trans k4⟩, ⟨T, k5.fr (fun q z1 z2 => hr q (by omega) (by omega))⟩⟩ ?_ (hs 0 (by omega) (by omega))
  rw [set_2, k2, new_2]
  omega
theorem l_in55 {o3 o4 : Value} (hn : h.1 = 51) (g1 : ex_g h 1 = some (cO 7 [.ref 2, .ref 4, .ref 42, o3, o4, o5])) (g2 : ex_g h 2 = some (oPd 3 0)) (g3 : ex_g h 3 = some (cI 24 (fun _ => 0))) (g4 : ex_g h 4 = some (cR 3 6 (va_up (fun _ => none) 3 (some 5)))) (hD : DG 3 5 h) (hS : STT 42 5 97 2 (fun _ _ => 0) h) (hX : ∀ H, C0 H → H.2.1 ≤ h.2.1 + 400 → ex_g H 0 = ex_g h 0 → X none H) : ex_W 60 55 [.ref 1] [] h X := by
  have e3 := eO_3
  have j0 : 1 < 51 := by decide
  simp only [s60_0, s60_1, s60_4, s60_5, s60_8, s60_9, s60_12, s60_15, s60_16, s60_18, s60_21, s60_24, s60_25, s60_28, s60_29, s60_32, s60_33, s60_34, s60_37, s60_38, s60_39, s60_42, s60_43, s60_44, s60_47, s60_48, s60_49, s60_52, s60_55, s60_56, s60_57, s60_60, s60_63, s60_64, s60_67, s60_68, s60_71, s60_75, s60_78, s60_79, s60_82, s60_85, is_O, opt_s, opt_n, cat_0, cat_i, cat_r, true_and, Nat.zero_le, Nat.reduceAdd, Nat.reduceLeDiff, al_I, as_I, rl_R, ln_I, ln_R, nI_add, pk_mul, g_set, set_set, not_false_eq_true, gf0_0, gf0_1, gf0_2, gf1_0, gf1_1, gf1_2, gf1_3, gf1_4, gf1_5, gf1_6, gf1_7, gf1_8, gf1_9, gf1_10, gf1_11, gf2_0, gf2_1, gf2_2, gf3_0, gf3_1, gf4_0, gf4_1, gf4_2, gf5_0, gf5_1, gf5_2, gf5_3, gf6_0, gf6_1, gf6_2, gf6_3, gf6_4, gf6_5, gf6_6, gf7_0, gf7_1, gf7_2, gf7_3, gf7_4, gf7_5, pf0_0, pf0_1, pf0_2, pf1_0, pf1_1, pf1_2, pf1_3, pf1_4, pf1_5, pf1_6, pf1_7, pf1_8, pf1_9, pf1_10, pf1_11, pf2_0, pf2_1, pf2_2, pf3_0, pf3_1, pf4_0, pf4_1, pf4_2, pf5_0, pf5_1, pf5_2, pf5_3, pf6_0, pf6_1, pf6_2, pf6_3, pf6_4, pf6_5, pf6_6, pf7_0, pf7_1, pf7_2, pf7_3, pf7_4, pf7_5, na_n (show 2 ≤ 100000 by decide), g_nl, hn, j0, g1, new_1, set_1]
  obtain ⟨p1, p2, p3, p4, p5⟩ := st_np (K := h) (a := 1) (E' := 51) (c := cR 4 2 (fun _ => none)) (n := 2) (c' := cO 7 [.ref 2, .ref 4, .ref 42, .ref 51, o4, o5]) hn (by decide)
  refine m_Algebra (al := 52) (by rw [new_1, p1]) (g_newe p1) (fun K k1 k2 k3 k4 i1 i2 i3 => ?_)
  have hq : ∀ q, q < 52 → ex_g K q = _ := fun q hq => (k3 q hq).trans (g_nl (by rw [p1]; omega))
  have hs : ∀ q, q < 51 → ¬ q = 1 → ex_g K q = ex_g h q := fun q z1 z2 => (hq q (by omega)).trans (p5 q z2 (by omega))
  have o1 := (hq 1 (by omega)).trans p3
  simp only [s60_0, s60_1, s60_4, s60_5, s60_8, s60_9, s60_12, s60_15, s60_16, s60_18, s60_21, s60_24, s60_25, s60_28, s60_29, s60_32, s60_33, s60_34, s60_37, s60_38, s60_39, s60_42, s60_43, s60_44, s60_47, s60_48, s60_49, s60_52, s60_55, s60_56, s60_57, s60_60, s60_63, s60_64, s60_67, s60_68, s60_71, s60_75, s60_78, s60_79, s60_82, s60_85, is_O, opt_s, opt_n, cat_0, cat_i, cat_r, true_and, Nat.zero_le, Nat.reduceAdd, Nat.reduceLeDiff, al_I, as_I, rl_R, ln_I, ln_R, nI_add, pk_mul, g_set, set_set, not_false_eq_true, gf0_0, gf0_1, gf0_2, gf1_0, gf1_1, gf1_2, gf1_3, gf1_4, gf1_5, gf1_6, gf1_7, gf1_8, gf1_9, gf1_10, gf1_11, gf2_0, gf2_1, gf2_2, gf3_0, gf3_1, gf4_0, gf4_1, gf4_2, gf5_0, gf5_1, gf5_2, gf5_3, gf6_0, gf6_1, gf6_2, gf6_3, gf6_4, gf6_5, gf6_6, gf7_0, gf7_1, gf7_2, gf7_3, gf7_4, gf7_5, pf0_0, pf0_1, pf0_2, pf1_0, pf1_1, pf1_2, pf1_3, pf1_4, pf1_5, pf1_6, pf1_7, pf1_8, pf1_9, pf1_10, pf1_11, pf2_0, pf2_1, pf2_2, pf3_0, pf3_1, pf4_0, pf4_1, pf4_2, pf5_0, pf5_1, pf5_2, pf5_3, pf6_0, pf6_1, pf6_2, pf6_3, pf6_4, pf6_5, pf6_6, pf7_0, pf7_1, pf7_2, pf7_3, pf7_4, pf7_5, o1]
  have hr : ∀ q, ¬ q = 1 → ex_g (ex_set K 1 (cO 7 [.ref 2, .ref 4, .ref 42, .ref 51, .ref 52, o5])) q = ex_g K q := fun q z => g_ne z
  have ht : ∀ q, q < 51 → ¬ q = 1 → ex_g (ex_set K 1 (cO 7 [.ref 2, .ref 4, .ref 42, .ref 51, .ref 52, o5])) q = ex_g h q := fun q z1 z2 => (hr q z2).trans (hs q z1 z2)
  obtain ⟨f1, i1⟩ := i1
  obtain ⟨f2, i2⟩ := i2
  obtain ⟨f3, i3⟩ := i3
  refine l_in74 (h := ex_set K 1 (cO 7 [.ref 2, .ref 4, .ref 42, .ref 51, .ref 52, o5])) k1 g_set ((ht _ (by omega) (by omega)).trans g2) ((ht _ (by omega) (by omega)).trans g3) ((ht _ (by omega) (by omega)).trans g4) ((hr _ (by omega)).trans ((hq 51 (by omega)).trans p4)) (hD.fr (by decide) (by decide) (fun q z1 z2 => ht q (by omega) (by omega))) (hS.fr (fun q z1 z2 => ht q (by omega) (by omega))) ((hr _ (by omega)).trans k4) ⟨f1, (hr _ (by omega)).trans i1⟩ ⟨f2, (hr _ (by omega)).trans i2⟩ ⟨f3, (hr _ (by omega)).trans i3⟩ (fun G c0 c1 c2 => hX G c0 ?_ (c2.trans (ht 0 (by omega) (by omega))))
  rw [set_2, k2, new_2, p2] at c1
  omega
theorem l_in38 {o2 o3 o4 : Value} (hn : h.1 = 42) (g1 : ex_g h 1 = some (cO 7 [.ref 2, .ref 4, o2, o3, o4, o5])) (g2 : ex_g h 2 = some (oPd 3 0)) (g3 : ex_g h 3 = some (cI 24 (fun _ => 0))) (g4 : ex_g h 4 = some (cR 3 6 (va_up (fun _ => none) 3 (some 5)))) (hD : DG 3 5 h) (hX : ∀ H, C0 H → H.2.1 ≤ h.2.1 + 800 → ex_g H 0 = ex_g h 0 → X none H) : ex_W 60 38 [.ref 1] [] h X := by
  have e3 := eO_3
  have j0 : 1 < 42 := by decide
  have j1 : 4 < 42 := by decide
  have hv : va_rf (va_up (fun _ => none) 3 (some 5) 3) = .ref 5 := vr_s (va_up_self _ _ _)
  simp only [s60_0, s60_1, s60_4, s60_5, s60_8, s60_9, s60_12, s60_15, s60_16, s60_18, s60_21, s60_24, s60_25, s60_28, s60_29, s60_32, s60_33, s60_34, s60_37, s60_38, s60_39, s60_42, s60_43, s60_44, s60_47, s60_48, s60_49, s60_52, s60_56, s60_57, s60_60, s60_63, s60_64, s60_67, s60_68, s60_71, s60_74, s60_75, s60_78, s60_79, s60_82, s60_85, is_O, opt_s, opt_n, cat_0, cat_i, cat_r, true_and, Nat.zero_le, Nat.reduceAdd, Nat.reduceLeDiff, al_I, as_I, rl_R, ln_I, ln_R, nI_add, pk_mul, g_set, set_set, not_false_eq_true, gf0_0, gf0_1, gf0_2, gf1_0, gf1_1, gf1_2, gf1_3, gf1_4, gf1_5, gf1_6, gf1_7, gf1_8, gf1_9, gf1_10, gf1_11, gf2_0, gf2_1, gf2_2, gf3_0, gf3_1, gf4_0, gf4_1, gf4_2, gf5_0, gf5_1, gf5_2, gf5_3, gf6_0, gf6_1, gf6_2, gf6_3, gf6_4, gf6_5, gf6_6, gf7_0, gf7_1, gf7_2, gf7_3, gf7_4, gf7_5, pf0_0, pf0_1, pf0_2, pf1_0, pf1_1, pf1_2, pf1_3, pf1_4, pf1_5, pf1_6, pf1_7, pf1_8, pf1_9, pf1_10, pf1_11, pf2_0, pf2_1, pf2_2, pf3_0, pf3_1, pf4_0, pf4_1, pf4_2, pf5_0, pf5_1, pf5_2, pf5_3, pf6_0, pf6_1, pf6_2, pf6_3, pf6_4, pf6_5, pf6_6, pf7_0, pf7_1, pf7_2, pf7_3, pf7_4, pf7_5, g_nl, hn, j0, j1, g1, g4, xi_n (show 3 < 6 by omega) (show 6 < 2147483648 by decide), hv]
  refine m_State (s := 42) (by rw [new_1, hn]) (g_newe hn) (fun K k1 k2 k3 k4 => ?_)
  have hq : ∀ q, q < 42 → ex_g K q = ex_g h q := fun q hq => (k3 q hq).trans (g_nl (by omega))
  have o1 := (hq 1 (by omega)).trans g1
  simp only [s60_0, s60_1, s60_4, s60_5, s60_8, s60_9, s60_12, s60_15, s60_16, s60_18, s60_21, s60_24, s60_25, s60_28, s60_29, s60_32, s60_33, s60_34, s60_37, s60_38, s60_39, s60_42, s60_43, s60_44, s60_47, s60_48, s60_49, s60_52, s60_56, s60_57, s60_60, s60_63, s60_64, s60_67, s60_68, s60_71, s60_74, s60_75, s60_78, s60_79, s60_82, s60_85, is_O, opt_s, opt_n, cat_0, cat_i, cat_r, true_and, Nat.zero_le, Nat.reduceAdd, Nat.reduceLeDiff, al_I, as_I, rl_R, ln_I, ln_R, nI_add, pk_mul, g_set, set_set, not_false_eq_true, gf0_0, gf0_1, gf0_2, gf1_0, gf1_1, gf1_2, gf1_3, gf1_4, gf1_5, gf1_6, gf1_7, gf1_8, gf1_9, gf1_10, gf1_11, gf2_0, gf2_1, gf2_2, gf3_0, gf3_1, gf4_0, gf4_1, gf4_2, gf5_0, gf5_1, gf5_2, gf5_3, gf6_0, gf6_1, gf6_2, gf6_3, gf6_4, gf6_5, gf6_6, gf7_0, gf7_1, gf7_2, gf7_3, gf7_4, gf7_5, pf0_0, pf0_1, pf0_2, pf1_0, pf1_1, pf1_2, pf1_3, pf1_4, pf1_5, pf1_6, pf1_7, pf1_8, pf1_9, pf1_10, pf1_11, pf2_0, pf2_1, pf2_2, pf3_0, pf3_1, pf4_0, pf4_1, pf4_2, pf5_0, pf5_1, pf5_2, pf5_3, pf6_0, pf6_1, pf6_2, pf6_3, pf6_4, pf6_5, pf6_6, pf7_0, pf7_1, pf7_2, pf7_3, pf7_4, pf7_5, o1]
  have hr : ∀ q, ¬ q = 1 → ex_g (ex_set K 1 (cO 7 [.ref 2, .ref 4, .ref 42, o3, o4, o5])) q = ex_g K q := fun q z => g_ne z
  have ht : ∀ q, q < 42 → ¬ q = 1 → ex_g (ex_set K 1 (cO 7 [.ref 2, .ref 4, .ref 42, o3, o4, o5])) q = ex_g h q := fun q z1 z2 => (hr q z2).trans (hq q z1)
  refine l_in55 (h := ex_set K 1 (cO 7 [.ref 2, .ref 4, .ref 42, o3, o4, o5])) k1 g_set ((ht _ (by omega) (by omega)).trans g2) ((ht _ (by omega) (by omega)).trans g3) ((ht _ (by omega) (by omega)).trans g4) (hD.fr (by decide) (by decide) (fun q z1 z2 => ht q (by omega) (by omega))) (k4.fr (fun q z1 z2 => hr q (by omega))) (fun G c0 c1 c2 => hX G c0 ?_ (c2.trans (ht 0 (by omega) (by omega))))
  rw [set_2, k2, new_2] at c1
  omega
/-- the constructor -/
theorem x_init (hn : h.1 = 2) (g1 : ex_g h 1 = some (cO 7 (ex_dfl 7))) (hX : ∀ H, C0 H → H.2.1 ≤ h.2.1 + 9000 → ex_g H 0 = ex_g h 0 → X none H) : ex_W 60 0 [.ref 1] [] h X := by
  rw [dfl7] at g1
  have e3 := eO_3
  simp only [s60_0, s60_1, s60_4, s60_5, s60_8, s60_9, s60_12, s60_15, s60_16, s60_18, s60_21, s60_24, s60_25, s60_28, s60_29, s60_32, s60_33, s60_34, s60_37, s60_39, s60_42, s60_43, s60_44, s60_47, s60_48, s60_49, s60_52, s60_55, s60_56, s60_57, s60_60, s60_63, s60_64, s60_67, s60_68, s60_71, s60_74, s60_75, s60_78, s60_79, s60_82, s60_85, is_O, opt_s, opt_n, cat_0, cat_i, cat_r, true_and, Nat.zero_le, Nat.reduceAdd, Nat.reduceLeDiff, al_I, as_I, rl_R, ln_I, ln_R, nI_add, pk_mul, g_set, set_set, not_false_eq_true, gf0_0, gf0_1, gf0_2, gf1_0, gf1_1, gf1_2, gf1_3, gf1_4, gf1_5, gf1_6, gf1_7, gf1_8, gf1_9, gf1_10, gf1_11, gf2_0, gf2_1, gf2_2, gf3_0, gf3_1, gf4_0, gf4_1, gf4_2, gf5_0, gf5_1, gf5_2, gf5_3, gf6_0, gf6_1, gf6_2, gf6_3, gf6_4, gf6_5, gf6_6, gf7_0, gf7_1, gf7_2, gf7_3, gf7_4, gf7_5, pf0_0, pf0_1, pf0_2, pf1_0, pf1_1, pf1_2, pf1_3, pf1_4, pf1_5, pf1_6, pf1_7, pf1_8, pf1_9, pf1_10, pf1_11, pf2_0, pf2_1, pf2_2, pf3_0, pf3_1, pf4_0, pf4_1, pf4_2, pf5_0, pf5_1, pf5_2, pf5_3, pf6_0, pf6_1, pf6_2, pf6_3, pf6_4, pf6_5, pf6_6, pf7_0, pf7_1, pf7_2, pf7_3, pf7_4, pf7_5, hn]
  refine m_Pad (pd := 2) (by rw [new_1, hn]) (g_newe hn) (fun K k1 k2 k3 k4 k5 => ?_)
  have hq : ∀ q, q < 2 → ex_g K q = ex_g h q := fun q hq => (k3 q hq).trans (g_nl (by omega))
  have o1 := (hq 1 (by omega)).trans g1
  have j0 : 1 < 4 := by decide
  have j1 : 1 < 4 + 1 := by decide
  have j2 : 1 < 5 := by decide
  simp only [s60_0, s60_1, s60_4, s60_5, s60_8, s60_9, s60_12, s60_15, s60_16, s60_18, s60_21, s60_24, s60_25, s60_28, s60_29, s60_32, s60_33, s60_34, s60_37, s60_39, s60_42, s60_43, s60_44, s60_47, s60_48, s60_49, s60_52, s60_55, s60_56, s60_57, s60_60, s60_63, s60_64, s60_67, s60_68, s60_71, s60_74, s60_75, s60_78, s60_79, s60_82, s60_85, is_O, opt_s, opt_n, cat_0, cat_i, cat_r, true_and, Nat.zero_le, Nat.reduceAdd, Nat.reduceLeDiff, al_I, as_I, rl_R, ln_I, ln_R, nI_add, pk_mul, g_set, set_set, not_false_eq_true, gf0_0, gf0_1, gf0_2, gf1_0, gf1_1, gf1_2, gf1_3, gf1_4, gf1_5, gf1_6, gf1_7, gf1_8, gf1_9, gf1_10, gf1_11, gf2_0, gf2_1, gf2_2, gf3_0, gf3_1, gf4_0, gf4_1, gf4_2, gf5_0, gf5_1, gf5_2, gf5_3, gf6_0, gf6_1, gf6_2, gf6_3, gf6_4, gf6_5, gf6_6, gf7_0, gf7_1, gf7_2, gf7_3, gf7_4, gf7_5, pf0_0, pf0_1, pf0_2, pf1_0, pf1_1, pf1_2, pf1_3, pf1_4, pf1_5, pf1_6, pf1_7, pf1_8, pf1_9, pf1_10, pf1_11, pf2_0, pf2_1, pf2_2, pf3_0, pf3_1, pf4_0, pf4_1, pf4_2, pf5_0, pf5_1, pf5_2, pf5_3, pf6_0, pf6_1, pf6_2, pf6_3, pf6_4, pf6_5, pf6_6, pf7_0, pf7_1, pf7_2, pf7_3, pf7_4, pf7_5, o1, na_n (show 6 ≤ 100000 by decide), g_nl, k1, j0, j1, j2, new_1, set_1]
  obtain ⟨p1, p2, p3, p4, p5⟩ := st_np (K := ex_set K 1 (cO 7 [.ref 2, .null, .null, .null, .null, .null])) (a := 1) (E' := 4) (c := cR 3 6 (fun _ => none)) (n := 6) (c' := cO 7 [.ref 2, .ref 4, .null, .null, .null, .null]) k1 (by decide)
  refine m_Diagrams (v := 3) (a := 5) (by decide) (by decide) (by rw [new_1, p1]) (g_newe p1) (fun G q1 q2 q3 q4 => ?_)
  have hG : ∀ q, q < 5 → ex_g G q = _ := fun q hq => (q3 q hq).trans (g_nl (by rw [p1]; omega))
  have hG2 : ∀ q, q < 4 → ¬ q = 1 → ex_g G q = ex_g K q := fun q z1 z2 => (hG q (by omega)).trans ((p5 q z2 (by omega)).trans (g_ne z2))
  have m1 := (hG 1 (by omega)).trans p3
  have m4 := (hG 4 (by omega)).trans p4
  have m5 := q4.1.1
  simp only [s60_0, s60_1, s60_4, s60_5, s60_8, s60_9, s60_12, s60_15, s60_16, s60_18, s60_21, s60_24, s60_25, s60_28, s60_29, s60_32, s60_33, s60_34, s60_37, s60_39, s60_42, s60_43, s60_44, s60_47, s60_48, s60_49, s60_52, s60_55, s60_56, s60_57, s60_60, s60_63, s60_64, s60_67, s60_68, s60_71, s60_74, s60_75, s60_78, s60_79, s60_82, s60_85, is_O, opt_s, opt_n, cat_0, cat_i, cat_r, true_and, Nat.zero_le, Nat.reduceAdd, Nat.reduceLeDiff, al_I, as_I, rl_R, ln_I, ln_R, nI_add, pk_mul, g_set, set_set, not_false_eq_true, gf0_0, gf0_1, gf0_2, gf1_0, gf1_1, gf1_2, gf1_3, gf1_4, gf1_5, gf1_6, gf1_7, gf1_8, gf1_9, gf1_10, gf1_11, gf2_0, gf2_1, gf2_2, gf3_0, gf3_1, gf4_0, gf4_1, gf4_2, gf5_0, gf5_1, gf5_2, gf5_3, gf6_0, gf6_1, gf6_2, gf6_3, gf6_4, gf6_5, gf6_6, gf7_0, gf7_1, gf7_2, gf7_3, gf7_4, gf7_5, pf0_0, pf0_1, pf0_2, pf1_0, pf1_1, pf1_2, pf1_3, pf1_4, pf1_5, pf1_6, pf1_7, pf1_8, pf1_9, pf1_10, pf1_11, pf2_0, pf2_1, pf2_2, pf3_0, pf3_1, pf4_0, pf4_1, pf4_2, pf5_0, pf5_1, pf5_2, pf5_3, pf6_0, pf6_1, pf6_2, pf6_3, pf6_4, pf6_5, pf6_6, pf7_0, pf7_1, pf7_2, pf7_3, pf7_4, pf7_5, m4, m5]
  rw [rs_R (by rfl)]
  simp only [xi_n (show 3 < 6 by decide) (show 6 < 2147483648 by decide)]
  have hr : ∀ q, ¬ q = 4 → ex_g (ex_set G 4 (cR 3 6 (va_up (fun _ => none) 3 (some 5)))) q = ex_g G q := fun q z => g_ne z
  refine l_in38 (h := ex_set G 4 (cR 3 6 (va_up (fun _ => none) 3 (some 5)))) (by rw [set_1, q1, e3]) ((hr _ (by omega)).trans m1) ((hr _ (by omega)).trans ((hG2 2 (by omega) (by omega)).trans k4)) ((hr _ (by omega)).trans ((hG2 3 (by omega) (by omega)).trans k5)) g_set (q4.fr (by decide) (by decide) (fun q z1 z2 => hr q (by omega))) (fun L c0 c1 c2 => hX L c0 ?_ (c2.trans ((hr 0 (by omega)).trans ((hG2 0 (by omega) (by omega)).trans (hq 0 (by omega))))))
  rw [set_2] at c1
  rw [new_2, p2, set_2, k2, new_2] at q2
  omega
/-- the class as a whole, once the reference lies behind it -/
theorem C0.cx (hC : C0 h) (hH : H.1 = 86) (hq : ∀ q, q < 63 → ex_g H q = ex_g h q) : CX (va_up (fun _ => none) 3 (some 5)) (fun _ => none) 0 (fun _ => 0) 3 97 2 (fun _ _ => 0) (fun _ => none) H := by
  obtain ⟨c0, c1, c2, c3, c4, b1, b2, b3, b4, ⟨⟨e1, b5⟩, ⟨e2, b6⟩, ⟨e3, b7⟩⟩, ⟨d, r, n, b8⟩, ⟨T, b9⟩⟩ := hC
  have e33 := eO_3
  have hne : ∀ w a, va_up (fun _ => none) 3 (some 5) w = some a → w = 3 ∧ a = 5 := fun w a hw => by
    unfold va_up at hw
    by_cases e : w = 3
    · rw [if_pos e] at hw
      cases hw
      exact ⟨e, rfl⟩
    · rw [if_neg e] at hw
      cases hw
  refine ⟨by omega, okSt0 (by decide) (by decide), ⟨5, va_up_self _ _ _, (hq _ (by omega)).trans b1, (hq _ (by omega)).trans b2, b3.fr (fun q z1 z2 => hq q (by omega)), (hq _ (by omega)).trans b4, ⟨⟨e1, (hq _ (by omega)).trans b5⟩, ⟨e2, (hq _ (by omega)).trans b6⟩, ⟨e3, (hq _ (by omega)).trans b7⟩⟩, ⟨d, r, n, (hq _ (by omega)).trans b8⟩, ⟨T, b9.fr (fun q z1 z2 => hq q (by omega))⟩⟩, by omega, (hq _ (by omega)).trans c1, (hq _ (by omega)).trans c2, (hq _ (by omega)).trans c3, ⟨fun w a u1 u2 hw => ?_, fun w w' a a' _ _ _ _ hn hw hw' => ?_⟩, fun k hk => Or.inl ⟨rfl, rfl⟩, fun k k' s s' _ _ _ hs _ => by cases hs⟩
  · obtain ⟨rfl, rfl⟩ := hne w a hw
    exact ⟨c4.fr (by decide) (by decide) (fun q z1 z2 => hq q (by omega)), Or.inl ⟨rfl, rfl⟩, by omega⟩
  · have y1 := hne w a hw
    have y2 := hne w' a' hw'
    omega
end C36
