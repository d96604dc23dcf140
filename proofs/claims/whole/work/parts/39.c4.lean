/-! THE CLASS: texts are made -/
def TX (P o t : Nat) (h : ex_Hp) : Prop := ex_g h t = some (oTx (.int (nI (cL P o).length)) (.ref (t + 5)) (.ref (t + 4)) P o (t + 1)) ∧ (∃ fc, ex_g h (t + 4) = some (cI (cL P o).length fc) ∧ ∀ i, i < (cL P o).length → fc i = nI ((cL P o).getD i 0)) ∧ ex_g h (t + 5) = some (cR 2 (cL P o).length (fun i => if i < (cL P o).length then some (t + 6 + i) else none)) ∧ ∀ i, i < (cL P o).length → ∃ f, ex_g h (t + 6 + i) = some (cI P f) ∧ ∀ j, j < P → f j = oV (rL P o i j)
section C4
variable {h H : ex_Hp} {X : Option Value → ex_Hp → Prop} {P o t w r n k : Nat} {c0 c1 c2 : Value} {c : ex_AC}
theorem TX.fr (hT : TX P o t h) (hq : ∀ q, t ≤ q → q < t + 6 + (cL P o).length → ex_g H q = ex_g h q) : TX P o t H := by
  obtain ⟨a1, ⟨fc, a2, a3⟩, a4, a5⟩ := hT
  refine ⟨?_, ⟨fc, ?_, a3⟩, ?_, fun i hi => ?_⟩
  · rw [hq _ (by omega) (by omega)]; exact a1
  · rw [hq _ (by omega) (by omega)]; exact a2
  · rw [hq _ (by omega) (by omega)]; exact a4
  · obtain ⟨f, b1, b2⟩ := a5 i hi
    exact ⟨f, by rw [hq _ (by omega) (by omega)]; exact b1, b2⟩
theorem m_findCodes {fd : Nat} {fw f0 : Nat → Int32} (hv : vP P o) (ht : ex_g h t = some (oTx c0 c1 c2 P o w)) (tw : ¬ t = w) (tf : ¬ t = fd) (wf : ¬ w = fd) (lt : t < h.1) (lw : w < h.1) (lf : fd < h.1) (hw : ex_g h w = some (cI P fw)) (hf : ex_g h fd = some (cI 42 f0)) (hX : ∀ H fw ff, H.1 = h.1 + 1 → H.2.1 = h.2.1 + P → (∀ q, ¬ q = w → ¬ q = fd → ¬ q = h.1 → ex_g H q = ex_g h q) → ex_g H w = some (cI P fw) → ex_g H fd = some (cI 42 ff) → (∀ i, i < (cL P o).length → ff i = nI ((cL P o).getD i 0)) → X (some (.int (nI (cL P o).length))) H) : ex_W 55 0 [.ref t, .ref fd, oU, oU, oU, oU] [] h X := by
  obtain ⟨p1, p2, p3, p4, p5, p6, p7, p8⟩ := vP0 hv
  have gt : ex_g (ex_new h (cI P (fun _ => 0)) P) t = some (oTx c0 c1 c2 P o w) := by rw [g_newn (by omega)]; exact ht
  simp only [s55_0, s55_1, s55_4, s55_6, s55_7, s55_8, s55_9, s55_10, s55_14, s55_15, s55_18, s55_21, s55_22, s55_23, s55_26, s55_27, s55_28, s55_31, s55_34, s55_35, s55_37, s55_38, s55_42, s55_43, s55_46, s55_48, s55_49, s55_50, s55_53, s55_54, s55_56, s55_57, s55_60, s55_63, s55_64, s55_66, s55_68, s55_69, s55_72, s55_75, s55_78, s55_80, is_O, opt_s, opt_n, cat_0, cat_i, cat_r, true_and, Nat.zero_le, Nat.reduceAdd, Nat.reduceLeDiff, al_I, as_I, rl_R, ln_I, ln_R, nI_add, pk_mul, g_set, set_set, not_false_eq_true, gf0_0, gf0_1, gf0_2, gf1_0, gf1_1, gf1_2, gf1_3, gf1_4, gf1_5, gf1_6, gf1_7, gf1_8, gf1_9, gf1_10, gf1_11, gf2_0, gf2_1, gf2_2, gf3_0, gf3_1, gf4_0, gf4_1, gf4_2, gf5_0, gf5_1, gf5_2, gf5_3, gf6_0, gf6_1, gf6_2, gf6_3, gf6_4, gf6_5, gf6_6, gf7_0, gf7_1, gf7_2, gf7_3, gf7_4, gf7_5, pf0_0, pf0_1, pf0_2, pf1_0, pf1_1, pf1_2, pf1_3, pf1_4, pf1_5, pf1_6, pf1_7, pf1_8, pf1_9, pf1_10, pf1_11, pf2_0, pf2_1, pf2_2, pf3_0, pf3_1, pf4_0, pf4_1, pf4_2, pf5_0, pf5_1, pf5_2, pf5_3, pf6_0, pf6_1, pf6_2, pf6_3, pf6_4, pf6_5, pf6_6, pf7_0, pf7_1, pf7_2, pf7_3, pf7_4, pf7_5, ht, na_n (show P ≤ 100000 by omega)]
  refine l_fc12 p2 p8 gt ?_ P 0 (by omega)
  rw [s55_34, s55_35, s55_37, s55_38]
  have := l_fc40 (X := X) (fd := fd) (r0 := h.1) hv gt tw (by omega) (by omega) tf wf (by omega) (fun H fw ff hH a1 a2 a3 => ?_) (bs o ^ P) 0 (ex_new h (cI P (fun _ => 0)) P) fw (fun _ => 0) f0 (by omega) ch.rfl' (by rw [g_newn (by omega)]; exact hw) g_new (by rw [g_newn (by omega)]; exact hf) (fun i hi => by rw [p4] at hi; omega)
  · rw [p4] at this
    exact this
  · refine hX H fw ff ?_ ?_ (fun q q1 q2 q3 => ?_) a1 a2 a3
    · rw [hH.1, new_1]
    · rw [hH.2.1, new_2]
    · rw [hH.2.2 q (by simp [q1, q2, q3]), g_newn q3]
theorem m_copyOf {fd N : Nat} {ff : Nat → Int32} (hN : N ≤ 42) (lf : fd < h.1) (hf : ex_g h fd = some (cI 42 ff)) (hX : ∀ g : Nat → Int32, (∀ i, i < N → g i = ff i) → X (some (.ref h.1)) (ex_new h (cI N g) N)) : ex_W 160 0 [.ref fd, .int (nI N), oU] [] h X := by
  simp only [s160_0, s160_1, s160_2, s160_3, s160_6, s160_7, s160_10, s160_13, s160_14, s160_15, s160_17, s160_18, s160_19, s160_20, s160_21, s160_22, s160_23, s160_24, s160_25, s160_28, s160_31, s160_32, is_O, opt_s, opt_n, cat_0, cat_i, cat_r, true_and, Nat.zero_le, Nat.reduceAdd, Nat.reduceLeDiff, al_I, as_I, rl_R, ln_I, ln_R, nI_add, pk_mul, g_set, set_set, not_false_eq_true, gf0_0, gf0_1, gf0_2, gf1_0, gf1_1, gf1_2, gf1_3, gf1_4, gf1_5, gf1_6, gf1_7, gf1_8, gf1_9, gf1_10, gf1_11, gf2_0, gf2_1, gf2_2, gf3_0, gf3_1, gf4_0, gf4_1, gf4_2, gf5_0, gf5_1, gf5_2, gf5_3, gf6_0, gf6_1, gf6_2, gf6_3, gf6_4, gf6_5, gf6_6, gf7_0, gf7_1, gf7_2, gf7_3, gf7_4, gf7_5, pf0_0, pf0_1, pf0_2, pf1_0, pf1_1, pf1_2, pf1_3, pf1_4, pf1_5, pf1_6, pf1_7, pf1_8, pf1_9, pf1_10, pf1_11, pf2_0, pf2_1, pf2_2, pf3_0, pf3_1, pf4_0, pf4_1, pf4_2, pf5_0, pf5_1, pf5_2, pf5_3, pf6_0, pf6_1, pf6_2, pf6_3, pf6_4, pf6_5, pf6_6, pf7_0, pf7_1, pf7_2, pf7_3, pf7_4, pf7_5, hf, cln_I, g_new, ck_I]
  by_cases h42 : N = 42
  · subst h42
    rw [if_neg (fun z => z rfl)]
    exact hX ff (fun i _ => rfl)
  · rw [if_pos (fun z => absurd ((nI_e (by omega) (by omega)).mp z) (by omega))]
    simp only [na_n (show N ≤ 100000 by omega), g_newn (show ¬ fd = h.1 by omega), hf, is_O, opt_s, opt_n, cat_0, cat_i, cat_r, true_and, Nat.zero_le, Nat.reduceAdd, Nat.reduceLeDiff, al_I, as_I, rl_R, ln_I, ln_R, nI_add, pk_mul, g_set, set_set, not_false_eq_true, gf0_0, gf0_1, gf0_2, gf1_0, gf1_1, gf1_2, gf1_3, gf1_4, gf1_5, gf1_6, gf1_7, gf1_8, gf1_9, gf1_10, gf1_11, gf2_0, gf2_1, gf2_2, gf3_0, gf3_1, gf4_0, gf4_1, gf4_2, gf5_0, gf5_1, gf5_2, gf5_3, gf6_0, gf6_1, gf6_2, gf6_3, gf6_4, gf6_5, gf6_6, gf7_0, gf7_1, gf7_2, gf7_3, gf7_4, gf7_5, pf0_0, pf0_1, pf0_2, pf1_0, pf1_1, pf1_2, pf1_3, pf1_4, pf1_5, pf1_6, pf1_7, pf1_8, pf1_9, pf1_10, pf1_11, pf2_0, pf2_1, pf2_2, pf3_0, pf3_1, pf4_0, pf4_1, pf4_2, pf5_0, pf5_1, pf5_2, pf5_3, pf6_0, pf6_1, pf6_2, pf6_3, pf6_4, pf6_5, pf6_6, pf7_0, pf7_1, pf7_2, pf7_3, pf7_4, pf7_5, g_new]
    rw [if_pos ((nI_l2 (by omega) (by omega)).mpr (by omega)), cpy_I (by omega) (by omega) (by omega)]
    have e : ex_set (ex_new h (cI N (fun _ => 0)) N) h.1 (cI N (va_cpy ff (fun _ => 0) 0 0 N)) = ex_new h (cI N (va_cpy ff (fun _ => 0) 0 0 N)) N := by
      unfold ex_set ex_new
      refine congrArg (Prod.mk _) (congrArg (Prod.mk _) (funext fun q => ?_))
      by_cases hq : q = h.1 <;> simp [hq]
    rw [e]
    refine hX _ (fun i hi => ?_)
    rw [pk_cpy_in (by omega) (by omega)]
    congr 1
    omega
theorem l_fill {a n : Nat} {x : Int32} (hn : n ≤ 100000) : ∀ (m i : Nat) (H : ex_Hp) (f : Nat → Int32), m + i = n → ch [a] h H → ex_g H a = some (cI n f) → (∀ j, j < i → f j = x) → (∀ H f, ch [a] h H → ex_g H a = some (cI n f) → (∀ j, j < n → f j = x) → X none H) → ex_W 159 5 [.ref a, .int x, .int (nI i), .int (nI n)] [] H X := by
  intro m
  induction m with
  | zero =>
    intro i H f hm hH ha hf hX
    obtain rfl : i = n := by omega
    rw [s159_5]
    simp only [s159_0, s159_1, s159_2, s159_3, s159_4, s159_6, s159_7, s159_10, s159_11, s159_12, s159_13, s159_14, s159_17, s159_20, is_O, opt_s, opt_n, cat_0, cat_i, cat_r, true_and, Nat.zero_le, Nat.reduceAdd, Nat.reduceLeDiff, al_I, as_I, rl_R, ln_I, ln_R, nI_add, pk_mul, g_set, set_set, not_false_eq_true, gf0_0, gf0_1, gf0_2, gf1_0, gf1_1, gf1_2, gf1_3, gf1_4, gf1_5, gf1_6, gf1_7, gf1_8, gf1_9, gf1_10, gf1_11, gf2_0, gf2_1, gf2_2, gf3_0, gf3_1, gf4_0, gf4_1, gf4_2, gf5_0, gf5_1, gf5_2, gf5_3, gf6_0, gf6_1, gf6_2, gf6_3, gf6_4, gf6_5, gf6_6, gf7_0, gf7_1, gf7_2, gf7_3, gf7_4, gf7_5, pf0_0, pf0_1, pf0_2, pf1_0, pf1_1, pf1_2, pf1_3, pf1_4, pf1_5, pf1_6, pf1_7, pf1_8, pf1_9, pf1_10, pf1_11, pf2_0, pf2_1, pf2_2, pf3_0, pf3_1, pf4_0, pf4_1, pf4_2, pf5_0, pf5_1, pf5_2, pf5_3, pf6_0, pf6_1, pf6_2, pf6_3, pf6_4, pf6_5, pf6_6, pf7_0, pf7_1, pf7_2, pf7_3, pf7_4, pf7_5]
    rw [if_pos ((nI_l1 (by omega) (by omega)).mpr (by omega))]
    exact hX H f hH ha hf
  | succ m ih =>
    intro i H f hm hH ha hf hX
    rw [s159_5]
    simp only [s159_0, s159_1, s159_2, s159_3, s159_4, s159_6, s159_7, s159_10, s159_11, s159_12, s159_13, s159_14, s159_17, s159_20, is_O, opt_s, opt_n, cat_0, cat_i, cat_r, true_and, Nat.zero_le, Nat.reduceAdd, Nat.reduceLeDiff, al_I, as_I, rl_R, ln_I, ln_R, nI_add, pk_mul, g_set, set_set, not_false_eq_true, gf0_0, gf0_1, gf0_2, gf1_0, gf1_1, gf1_2, gf1_3, gf1_4, gf1_5, gf1_6, gf1_7, gf1_8, gf1_9, gf1_10, gf1_11, gf2_0, gf2_1, gf2_2, gf3_0, gf3_1, gf4_0, gf4_1, gf4_2, gf5_0, gf5_1, gf5_2, gf5_3, gf6_0, gf6_1, gf6_2, gf6_3, gf6_4, gf6_5, gf6_6, gf7_0, gf7_1, gf7_2, gf7_3, gf7_4, gf7_5, pf0_0, pf0_1, pf0_2, pf1_0, pf1_1, pf1_2, pf1_3, pf1_4, pf1_5, pf1_6, pf1_7, pf1_8, pf1_9, pf1_10, pf1_11, pf2_0, pf2_1, pf2_2, pf3_0, pf3_1, pf4_0, pf4_1, pf4_2, pf5_0, pf5_1, pf5_2, pf5_3, pf6_0, pf6_1, pf6_2, pf6_3, pf6_4, pf6_5, pf6_6, pf7_0, pf7_1, pf7_2, pf7_3, pf7_4, pf7_5, ha, xi_n (show i < n by omega) (show n < 2147483648 by omega)]
    rw [if_neg (fun z => absurd ((nI_l1 (by omega) (by omega)).mp z) (by omega))]
    refine ih (i + 1) _ (upd f i x) (by omega) (hH.set (by simp)) g_set (fun j hj => ?_) hX
    by_cases hc : j = i
    · rw [hc, pk_us]
    · rw [pk_un hc]
      exact hf j (by omega)
theorem m_fill {a n : Nat} {x : Int32} {f : Nat → Int32} (hn : n ≤ 100000) (ha : ex_g h a = some (cI n f)) (hX : ∀ H f, ch [a] h H → ex_g H a = some (cI n f) → (∀ j, j < n → f j = x) → X none H) : ex_W 159 0 [.ref a, .int x, oU, oU] [] h X := by
  simp only [s159_0, s159_1, s159_2, s159_3, s159_4, s159_6, s159_7, s159_10, s159_11, s159_12, s159_13, s159_14, s159_17, s159_20, is_O, opt_s, opt_n, cat_0, cat_i, cat_r, true_and, Nat.zero_le, Nat.reduceAdd, Nat.reduceLeDiff, al_I, as_I, rl_R, ln_I, ln_R, nI_add, pk_mul, g_set, set_set, not_false_eq_true, gf0_0, gf0_1, gf0_2, gf1_0, gf1_1, gf1_2, gf1_3, gf1_4, gf1_5, gf1_6, gf1_7, gf1_8, gf1_9, gf1_10, gf1_11, gf2_0, gf2_1, gf2_2, gf3_0, gf3_1, gf4_0, gf4_1, gf4_2, gf5_0, gf5_1, gf5_2, gf5_3, gf6_0, gf6_1, gf6_2, gf6_3, gf6_4, gf6_5, gf6_6, gf7_0, gf7_1, gf7_2, gf7_3, gf7_4, gf7_5, pf0_0, pf0_1, pf0_2, pf1_0, pf1_1, pf1_2, pf1_3, pf1_4, pf1_5, pf1_6, pf1_7, pf1_8, pf1_9, pf1_10, pf1_11, pf2_0, pf2_1, pf2_2, pf3_0, pf3_1, pf4_0, pf4_1, pf4_2, pf5_0, pf5_1, pf5_2, pf5_3, pf6_0, pf6_1, pf6_2, pf6_3, pf6_4, pf6_5, pf6_6, pf7_0, pf7_1, pf7_2, pf7_3, pf7_4, pf7_5, ha]
  exact l_fill hn n 0 h f (by omega) ch.rfl' ha (fun j hj => by omega) hX
theorem g_nl {q : Nat} (hq : q < h.1) : ex_g (ex_new h c k) q = ex_g h q := g_newn (by omega)
theorem dfl6 : ex_dfl 6 = [.int 0, .null, .null, .int 0, .int 0, .int 0, .null] := by decide +kernel
theorem l_tx76 {l1 l2 l3 : Value} (hv : vP P o) (ht : ex_g h t = some (oTx (.int (nI (cL P o).length)) (.ref (t + 5)) (.ref (t + 4)) P o (t + 1))) {fc : Nat → Int32} (hc : ex_g h (t + 4) = some (cI (cL P o).length fc)) (hfc : ∀ i, i < (cL P o).length → fc i = nI ((cL P o).getD i 0)) (ho : ex_g h (t + 5) = some (cR 2 (cL P o).length (fun i => if i < (cL P o).length then some (t + 6 + i) else none))) (hX : ∀ H, H.1 = h.1 → H.2.1 = h.2.1 → (∀ q, q < t + 1 ∨ t + 6 + (cL P o).length ≤ q → ex_g H q = ex_g h q) → TX P o t H → X none H) : ∀ (n i : Nat) (H : ex_Hp) (fw : Nat → Int32), n + i = (cL P o).length → H.1 = h.1 → H.2.1 = h.2.1 → (∀ q, ¬ q = t + 1 → q < t + 6 ∨ t + 6 + (cL P o).length ≤ q → ex_g H q = ex_g h q) → ex_g H (t + 1) = some (cI P fw) → (∀ j, j < (cL P o).length → ∃ f, ex_g H (t + 6 + j) = some (cI P f) ∧ (j < i → ∀ q, q < P → f q = oV (rL P o j q))) → ex_W 54 76 [.ref t, l1, l2, l3, .int (nI i)] [] H X := by
  obtain ⟨p1, p2, p3, p4, p5, p6, p7, p8⟩ := vP0 hv
  intro n
  induction n with
  | zero =>
    intro i H fw hn hH1 hH2 hfr hw hrows
    obtain rfl : i = (cL P o).length := by omega
    have gt : ex_g H t = _ := (hfr t (by omega) (by omega)).trans ht
    rw [s54_76]
    simp only [s54_0, s54_1, s54_4, s54_5, s54_6, s54_9, s54_10, s54_11, s54_14, s54_15, s54_16, s54_19, s54_20, s54_23, s54_24, s54_27, s54_28, s54_29, s54_31, s54_34, s54_36, s54_38, s54_39, s54_40, s54_41, s54_42, s54_45, s54_48, s54_49, s54_50, s54_51, s54_54, s54_57, s54_60, s54_61, s54_62, s54_65, s54_66, s54_70, s54_73, s54_74, s54_78, s54_79, s54_82, s54_85, s54_86, s54_87, s54_90, s54_92, s54_93, s54_94, s54_97, s54_99, s54_100, s54_103, s54_104, s54_107, s54_110, is_O, opt_s, opt_n, cat_0, cat_i, cat_r, true_and, Nat.zero_le, Nat.reduceAdd, Nat.reduceLeDiff, al_I, as_I, rl_R, ln_I, ln_R, nI_add, pk_mul, g_set, set_set, not_false_eq_true, gf0_0, gf0_1, gf0_2, gf1_0, gf1_1, gf1_2, gf1_3, gf1_4, gf1_5, gf1_6, gf1_7, gf1_8, gf1_9, gf1_10, gf1_11, gf2_0, gf2_1, gf2_2, gf3_0, gf3_1, gf4_0, gf4_1, gf4_2, gf5_0, gf5_1, gf5_2, gf5_3, gf6_0, gf6_1, gf6_2, gf6_3, gf6_4, gf6_5, gf6_6, gf7_0, gf7_1, gf7_2, gf7_3, gf7_4, gf7_5, pf0_0, pf0_1, pf0_2, pf1_0, pf1_1, pf1_2, pf1_3, pf1_4, pf1_5, pf1_6, pf1_7, pf1_8, pf1_9, pf1_10, pf1_11, pf2_0, pf2_1, pf2_2, pf3_0, pf3_1, pf4_0, pf4_1, pf4_2, pf5_0, pf5_1, pf5_2, pf5_3, pf6_0, pf6_1, pf6_2, pf6_3, pf6_4, pf6_5, pf6_6, pf7_0, pf7_1, pf7_2, pf7_3, pf7_4, pf7_5, gt]
    rw [if_pos ((nI_l1 (by omega) (by omega)).mpr (by omega))]
    refine hX H hH1 hH2 (fun q hq => hfr q (by omega) (by omega)) ⟨gt, ⟨fc, (hfr _ (by omega) (by omega)).trans hc, hfc⟩, (hfr _ (by omega) (by omega)).trans ho, fun j hj => ?_⟩
    obtain ⟨f, b1, b2⟩ := hrows j hj
    exact ⟨f, b1, b2 hj⟩
  | succ n ih =>
    intro i H fw hn hH1 hH2 hfr hw hrows
    have hi : i < (cL P o).length := by omega
    have gt : ex_g H t = _ := (hfr t (by omega) (by omega)).trans ht
    have gc : ex_g H (t + 4) = _ := (hfr _ (by omega) (by omega)).trans hc
    have go : ex_g H (t + 5) = _ := (hfr _ (by omega) (by omega)).trans ho
    obtain ⟨f, b1, b2⟩ := hrows i hi
    obtain ⟨k1, k2, k3⟩ := vPi hv hi
    rw [s54_76]
    simp only [s54_0, s54_1, s54_4, s54_5, s54_6, s54_9, s54_10, s54_11, s54_14, s54_15, s54_16, s54_19, s54_20, s54_23, s54_24, s54_27, s54_28, s54_29, s54_31, s54_34, s54_36, s54_38, s54_39, s54_40, s54_41, s54_42, s54_45, s54_48, s54_49, s54_50, s54_51, s54_54, s54_57, s54_60, s54_61, s54_62, s54_65, s54_66, s54_70, s54_73, s54_74, s54_78, s54_79, s54_82, s54_85, s54_86, s54_87, s54_90, s54_92, s54_93, s54_94, s54_97, s54_99, s54_100, s54_103, s54_104, s54_107, s54_110, is_O, opt_s, opt_n, cat_0, cat_i, cat_r, true_and, Nat.zero_le, Nat.reduceAdd, Nat.reduceLeDiff, al_I, as_I, rl_R, ln_I, ln_R, nI_add, pk_mul, g_set, set_set, not_false_eq_true, gf0_0, gf0_1, gf0_2, gf1_0, gf1_1, gf1_2, gf1_3, gf1_4, gf1_5, gf1_6, gf1_7, gf1_8, gf1_9, gf1_10, gf1_11, gf2_0, gf2_1, gf2_2, gf3_0, gf3_1, gf4_0, gf4_1, gf4_2, gf5_0, gf5_1, gf5_2, gf5_3, gf6_0, gf6_1, gf6_2, gf6_3, gf6_4, gf6_5, gf6_6, gf7_0, gf7_1, gf7_2, gf7_3, gf7_4, gf7_5, pf0_0, pf0_1, pf0_2, pf1_0, pf1_1, pf1_2, pf1_3, pf1_4, pf1_5, pf1_6, pf1_7, pf1_8, pf1_9, pf1_10, pf1_11, pf2_0, pf2_1, pf2_2, pf3_0, pf3_1, pf4_0, pf4_1, pf4_2, pf5_0, pf5_1, pf5_2, pf5_3, pf6_0, pf6_1, pf6_2, pf6_3, pf6_4, pf6_5, pf6_6, pf7_0, pf7_1, pf7_2, pf7_3, pf7_4, pf7_5, gt, gc, go, xi_n hi (show (cL P o).length < 2147483648 by omega), hfc i hi, if_pos hi, va_rf]
    rw [if_neg (fun z => absurd ((nI_l1 (by omega) (by omega)).mp z) (by omega))]
    refine m_read hv k2 gt (by omega) (by omega) (by omega) hw b1 (fun K fw' fr' hK hw' hr' hrow => ?_)
    have hrow := hrow k3
    rw [k1] at hrow
    simp only [s54_0, s54_1, s54_4, s54_5, s54_6, s54_9, s54_10, s54_11, s54_14, s54_15, s54_16, s54_19, s54_20, s54_23, s54_24, s54_27, s54_28, s54_29, s54_31, s54_34, s54_36, s54_38, s54_39, s54_40, s54_41, s54_42, s54_45, s54_48, s54_49, s54_50, s54_51, s54_54, s54_57, s54_60, s54_61, s54_62, s54_65, s54_66, s54_70, s54_73, s54_74, s54_78, s54_79, s54_82, s54_85, s54_86, s54_87, s54_90, s54_92, s54_93, s54_94, s54_97, s54_99, s54_100, s54_103, s54_104, s54_107, s54_110, is_O, opt_s, opt_n, cat_0, cat_i, cat_r, true_and, Nat.zero_le, Nat.reduceAdd, Nat.reduceLeDiff, al_I, as_I, rl_R, ln_I, ln_R, nI_add, pk_mul, g_set, set_set, not_false_eq_true, gf0_0, gf0_1, gf0_2, gf1_0, gf1_1, gf1_2, gf1_3, gf1_4, gf1_5, gf1_6, gf1_7, gf1_8, gf1_9, gf1_10, gf1_11, gf2_0, gf2_1, gf2_2, gf3_0, gf3_1, gf4_0, gf4_1, gf4_2, gf5_0, gf5_1, gf5_2, gf5_3, gf6_0, gf6_1, gf6_2, gf6_3, gf6_4, gf6_5, gf6_6, gf7_0, gf7_1, gf7_2, gf7_3, gf7_4, gf7_5, pf0_0, pf0_1, pf0_2, pf1_0, pf1_1, pf1_2, pf1_3, pf1_4, pf1_5, pf1_6, pf1_7, pf1_8, pf1_9, pf1_10, pf1_11, pf2_0, pf2_1, pf2_2, pf3_0, pf3_1, pf4_0, pf4_1, pf4_2, pf5_0, pf5_1, pf5_2, pf5_3, pf6_0, pf6_1, pf6_2, pf6_3, pf6_4, pf6_5, pf6_6, pf7_0, pf7_1, pf7_2, pf7_3, pf7_4, pf7_5]
    refine ih (i + 1) K fw' (by omega) (hK.1.trans hH1) (hK.2.1.trans hH2) (fun q q1 q2 => ?_) hw' (fun j hj => ?_)
    · rw [hK.2.2 q (by simp; omega)]
      exact hfr q q1 q2
    · by_cases hc2 : j = i
      · subst hc2
        exact ⟨fr', hr', fun _ => hrow⟩
      · obtain ⟨f', d1, d2⟩ := hrows j hj
        exact ⟨f', by rw [hK.2.2 _ (by simp; omega)]; exact d1, fun hlt => d2 (by omega)⟩
theorem h4f {K : ex_Hp} {d1 d2 d3 d4 : ex_AC} {k2 k4 : Nat} (hk : K.1 = t + 1) : (ex_new (ex_set (ex_new (ex_set K t d1) d2 k2) t d3) d4 k4).1 = t + 3 ∧ (ex_new (ex_set (ex_new (ex_set K t d1) d2 k2) t d3) d4 k4).2.1 = K.2.1 + k2 + k4 ∧ ex_g (ex_new (ex_set (ex_new (ex_set K t d1) d2 k2) t d3) d4 k4) t = some d3 ∧ ex_g (ex_new (ex_set (ex_new (ex_set K t d1) d2 k2) t d3) d4 k4) (t + 1) = some d2 ∧ ex_g (ex_new (ex_set (ex_new (ex_set K t d1) d2 k2) t d3) d4 k4) (t + 1 + 1) = some d4 ∧ ∀ q, q < t → ex_g (ex_new (ex_set (ex_new (ex_set K t d1) d2 k2) t d3) d4 k4) q = ex_g K q := by
  refine ⟨by simp only [ex_new, ex_set]; omega, rfl, ?_, ?_, ?_, fun q hq => ?_⟩
  · simp only [ex_g, ex_new, ex_set, hk]
    rw [if_neg (by omega), if_pos trivial]
  · simp only [ex_g, ex_new, ex_set, hk]
    rw [if_neg (by omega), if_neg (by omega), if_pos trivial]
  · simp only [ex_g, ex_new, ex_set, hk]
    rw [if_pos trivial]
  · simp only [ex_g, ex_new, ex_set, hk]
    rw [if_neg (by omega), if_neg (by omega), if_neg (by omega), if_neg (by omega)]
theorem g_n2l {q N K : Nat} (hq : q < h.1) : ex_g (ex_new2 h N K) q = ex_g h q := g_new2n (Or.inl hq)
theorem h5f {K : ex_Hp} {d5 d6 d7 d8 : ex_AC} {k6 N k : Nat} (hk : K.1 = t + 4) : (ex_set (ex_new2 (ex_set (ex_new (ex_set K t d5) d6 k6) t d7) N k) t d8).1 = t + 6 + N ∧ (ex_set (ex_new2 (ex_set (ex_new (ex_set K t d5) d6 k6) t d7) N k) t d8).2.1 = K.2.1 + k6 + (N + N * k) ∧ ex_g (ex_set (ex_new2 (ex_set (ex_new (ex_set K t d5) d6 k6) t d7) N k) t d8) t = some d8 ∧ ex_g (ex_set (ex_new2 (ex_set (ex_new (ex_set K t d5) d6 k6) t d7) N k) t d8) (t + 4) = some d6 ∧ ex_g (ex_set (ex_new2 (ex_set (ex_new (ex_set K t d5) d6 k6) t d7) N k) t d8) (t + 5) = some (cR 2 N (fun i => if i < N then some (t + 6 + i) else none)) ∧ (∀ i, i < N → ex_g (ex_set (ex_new2 (ex_set (ex_new (ex_set K t d5) d6 k6) t d7) N k) t d8) (t + 6 + i) = some (cI k (fun _ => nI 0))) ∧ ∀ q, q < t + 4 → ¬ q = t → ex_g (ex_set (ex_new2 (ex_set (ex_new (ex_set K t d5) d6 k6) t d7) N k) t d8) q = ex_g K q := by
  refine ⟨by simp only [ex_new, ex_set, ex_new2]; omega, rfl, g_set, ?_, ?_, fun i hi => ?_, fun q hq hq2 => ?_⟩
  · simp only [ex_g, ex_new, ex_set, ex_new2, hk]
    rw [if_neg (by omega), if_neg (by omega), if_neg (by omega), if_neg (by omega), if_pos trivial]
  · simp only [ex_g, ex_new, ex_set, ex_new2, hk]
    rw [if_neg (by omega), if_pos (by first | trivial | omega)]
  · simp only [ex_g, ex_new, ex_set, ex_new2, hk]
    rw [if_neg (by omega), if_neg (by omega), if_pos (by omega)]
    rfl
  · simp only [ex_g, ex_new, ex_set, ex_new2, hk]
    rw [if_neg (by omega), if_neg (by omega), if_neg (by omega), if_neg (by omega), if_neg (by omega), if_neg (by omega)]
theorem m_Texts (hv : vP P o) (lt : h.1 = t + 1) (ht : ex_g h t = some (cO 6 (ex_dfl 6))) (hX : ∀ H, H.1 = t + 6 + (cL P o).length → H.2.1 ≤ h.2.1 + 700 → (∀ q, q < t → ex_g H q = ex_g h q) → TX P o t H → X none H) : ex_W 54 0 [.ref t, .int (nI P), .int (nI o), oU, oU] [] h X := by
  obtain ⟨p1, p2, p3, p4, p5, p6, p7, p8⟩ := vP0 hv
  rw [dfl6] at ht
  have key : ∀ K : ex_Hp, K.1 = t + 1 → K.2.1 = h.2.1 → (∀ q, q < t → ex_g K q = ex_g h q) → ex_g K t = some (cO 6 [.int 0, .null, .null, .int (nI P), .int (nI o), .int 0, .null]) → ex_W 54 24 [.ref t, .int (nI P), .int (nI o), oU, oU] [.int (nI (bs o)), .ref t] K X := by
    intro K k1 k2 k3 k4
    have l1 : t < t + 1 := by omega
    have l2 : t < t + 1 + 1 := by omega
    simp only [s54_0, s54_1, s54_4, s54_5, s54_6, s54_9, s54_10, s54_11, s54_14, s54_15, s54_16, s54_19, s54_20, s54_23, s54_24, s54_27, s54_28, s54_29, s54_31, s54_34, s54_36, s54_38, s54_39, s54_40, s54_41, s54_42, s54_45, s54_48, s54_49, s54_50, s54_51, s54_54, s54_57, s54_60, s54_61, s54_62, s54_65, s54_66, s54_70, s54_73, s54_74, s54_78, s54_79, s54_82, s54_85, s54_86, s54_87, s54_90, s54_92, s54_93, s54_94, s54_97, s54_99, s54_100, s54_103, s54_104, s54_107, s54_110, is_O, opt_s, opt_n, cat_0, cat_i, cat_r, true_and, Nat.zero_le, Nat.reduceAdd, Nat.reduceLeDiff, al_I, as_I, rl_R, ln_I, ln_R, nI_add, pk_mul, g_set, set_set, not_false_eq_true, gf0_0, gf0_1, gf0_2, gf1_0, gf1_1, gf1_2, gf1_3, gf1_4, gf1_5, gf1_6, gf1_7, gf1_8, gf1_9, gf1_10, gf1_11, gf2_0, gf2_1, gf2_2, gf3_0, gf3_1, gf4_0, gf4_1, gf4_2, gf5_0, gf5_1, gf5_2, gf5_3, gf6_0, gf6_1, gf6_2, gf6_3, gf6_4, gf6_5, gf6_6, gf7_0, gf7_1, gf7_2, gf7_3, gf7_4, gf7_5, pf0_0, pf0_1, pf0_2, pf1_0, pf1_1, pf1_2, pf1_3, pf1_4, pf1_5, pf1_6, pf1_7, pf1_8, pf1_9, pf1_10, pf1_11, pf2_0, pf2_1, pf2_2, pf3_0, pf3_1, pf4_0, pf4_1, pf4_2, pf5_0, pf5_1, pf5_2, pf5_3, pf6_0, pf6_1, pf6_2, pf6_3, pf6_4, pf6_5, pf6_6, pf7_0, pf7_1, pf7_2, pf7_3, pf7_4, pf7_5, k4, na_n (show P ≤ 100000 by omega), na_n (show 42 ≤ 100000 by decide), new_1, set_1, k1, g_nl, l1, l2]
    obtain ⟨g1, g2, g3, g4, g5, g6⟩ := h4f (t := t) (K := K) (d1 := cO 6 [.int 0, .null, .null, .int (nI P), .int (nI o), .int (nI (bs o)), .null]) (d2 := .inl (0, P, fun _ => 0)) (d3 := cO 6 [.int 0, .null, .null, .int (nI P), .int (nI o), .int (nI (bs o)), .ref (t + 1)]) (d4 := .inl (0, 42, fun _ => 0)) (k2 := P) (k4 := 42) k1
    refine m_findCodes (w := t + 1) (fd := t + 1 + 1) hv g3 (by omega) (by omega) (by omega) (by omega) (by omega) (by omega) g4 g5 (fun H fw ff a1 a2 a3 a4 a5 a6 => ?_)
    have b1 : ex_g H t = some (cO 6 [.int 0, .null, .null, .int (nI P), .int (nI o), .int (nI (bs o)), .ref (t + 1)]) := by rw [a3 t (by omega) (by omega) (by omega)]; exact g3
    have b2 : H.1 = t + 4 := by omega
    have e1 : ¬ t + 1 + 1 = t := by omega
    have b3 : t + 1 + 1 < H.1 := by omega
    simp only [s54_0, s54_1, s54_4, s54_5, s54_6, s54_9, s54_10, s54_11, s54_14, s54_15, s54_16, s54_19, s54_20, s54_23, s54_24, s54_27, s54_28, s54_29, s54_31, s54_34, s54_36, s54_38, s54_39, s54_40, s54_41, s54_42, s54_45, s54_48, s54_49, s54_50, s54_51, s54_54, s54_57, s54_60, s54_61, s54_62, s54_65, s54_66, s54_70, s54_73, s54_74, s54_78, s54_79, s54_82, s54_85, s54_86, s54_87, s54_90, s54_92, s54_93, s54_94, s54_97, s54_99, s54_100, s54_103, s54_104, s54_107, s54_110, is_O, opt_s, opt_n, cat_0, cat_i, cat_r, true_and, Nat.zero_le, Nat.reduceAdd, Nat.reduceLeDiff, al_I, as_I, rl_R, ln_I, ln_R, nI_add, pk_mul, g_set, set_set, not_false_eq_true, gf0_0, gf0_1, gf0_2, gf1_0, gf1_1, gf1_2, gf1_3, gf1_4, gf1_5, gf1_6, gf1_7, gf1_8, gf1_9, gf1_10, gf1_11, gf2_0, gf2_1, gf2_2, gf3_0, gf3_1, gf4_0, gf4_1, gf4_2, gf5_0, gf5_1, gf5_2, gf5_3, gf6_0, gf6_1, gf6_2, gf6_3, gf6_4, gf6_5, gf6_6, gf7_0, gf7_1, gf7_2, gf7_3, gf7_4, gf7_5, pf0_0, pf0_1, pf0_2, pf1_0, pf1_1, pf1_2, pf1_3, pf1_4, pf1_5, pf1_6, pf1_7, pf1_8, pf1_9, pf1_10, pf1_11, pf2_0, pf2_1, pf2_2, pf3_0, pf3_1, pf4_0, pf4_1, pf4_2, pf5_0, pf5_1, pf5_2, pf5_3, pf6_0, pf6_1, pf6_2, pf6_3, pf6_4, pf6_5, pf6_6, pf7_0, pf7_1, pf7_2, pf7_3, pf7_4, pf7_5, b1]
    refine m_copyOf p6 (by rw [set_1]; omega) (by rw [g_ne e1]; exact a5) (fun u hu => ?_)
    have l3 : t < t + 4 := by omega
    have l4 : t < t + 4 + 1 := by omega
    simp only [s54_0, s54_1, s54_4, s54_5, s54_6, s54_9, s54_10, s54_11, s54_14, s54_15, s54_16, s54_19, s54_20, s54_23, s54_24, s54_27, s54_28, s54_29, s54_31, s54_34, s54_36, s54_38, s54_39, s54_40, s54_41, s54_42, s54_45, s54_48, s54_49, s54_50, s54_51, s54_54, s54_57, s54_60, s54_61, s54_62, s54_65, s54_66, s54_70, s54_73, s54_74, s54_78, s54_79, s54_82, s54_85, s54_86, s54_87, s54_90, s54_92, s54_93, s54_94, s54_97, s54_99, s54_100, s54_103, s54_104, s54_107, s54_110, is_O, opt_s, opt_n, cat_0, cat_i, cat_r, true_and, Nat.zero_le, Nat.reduceAdd, Nat.reduceLeDiff, al_I, as_I, rl_R, ln_I, ln_R, nI_add, pk_mul, g_set, set_set, not_false_eq_true, gf0_0, gf0_1, gf0_2, gf1_0, gf1_1, gf1_2, gf1_3, gf1_4, gf1_5, gf1_6, gf1_7, gf1_8, gf1_9, gf1_10, gf1_11, gf2_0, gf2_1, gf2_2, gf3_0, gf3_1, gf4_0, gf4_1, gf4_2, gf5_0, gf5_1, gf5_2, gf5_3, gf6_0, gf6_1, gf6_2, gf6_3, gf6_4, gf6_5, gf6_6, gf7_0, gf7_1, gf7_2, gf7_3, gf7_4, gf7_5, pf0_0, pf0_1, pf0_2, pf1_0, pf1_1, pf1_2, pf1_3, pf1_4, pf1_5, pf1_6, pf1_7, pf1_8, pf1_9, pf1_10, pf1_11, pf2_0, pf2_1, pf2_2, pf3_0, pf3_1, pf4_0, pf4_1, pf4_2, pf5_0, pf5_1, pf5_2, pf5_3, pf6_0, pf6_1, pf6_2, pf6_3, pf6_4, pf6_5, pf6_6, pf7_0, pf7_1, pf7_2, pf7_3, pf7_4, pf7_5, set_1, new_1, new2_1, b2, g_nl, g_n2l, l3, l4, na_n (show (cL P o).length ≤ 100000 by omega), na_n (show P ≤ 100000 by omega)]
    obtain ⟨f1, f2, f3, f4, f5, f6, f7⟩ := h5f (t := t) (K := H) (d5 := cO 6 [.int (nI (cL P o).length), .null, .null, .int (nI P), .int (nI o), .int (nI (bs o)), .ref (t + 1)]) (d6 := cI (cL P o).length u) (d7 := cO 6 [.int (nI (cL P o).length), .null, .ref (t + 4), .int (nI P), .int (nI o), .int (nI (bs o)), .ref (t + 1)]) (d8 := cO 6 [.int (nI (cL P o).length), .ref (t + 5), .ref (t + 4), .int (nI P), .int (nI o), .int (nI (bs o)), .ref (t + 1)]) (k6 := (cL P o).length) (N := (cL P o).length) (k := P) b2
    have hNP : (cL P o).length * P ≤ 42 * 10 := Nat.mul_le_mul p6 p2
    refine l_tx76 hv f3 f4 (fun i hi => (hu i hi).trans (a6 i hi)) f5 (fun E e1 e2 e3 e4 => hX E (by omega) (by omega) (fun q hq => ?_) e4) (cL P o).length 0 _ fw (by omega) rfl rfl (fun q _ _ => rfl) ((f7 (t + 1) (by omega) (by omega)).trans a4) (fun j hj => ⟨_, f6 j hj, fun z => by omega⟩)
    rw [e3 q (by omega), f7 q (by omega) (by omega), a3 q (by omega) (by omega) (by omega), g6 q hq]
    exact k3 q hq
  simp only [s54_0, s54_1, s54_4, s54_5, s54_6, s54_9, s54_10, s54_11, s54_14, s54_15, s54_16, s54_19, s54_20, s54_23, s54_27, s54_28, s54_29, s54_31, s54_34, s54_36, s54_38, s54_39, s54_40, s54_41, s54_42, s54_45, s54_48, s54_49, s54_50, s54_51, s54_54, s54_57, s54_60, s54_61, s54_62, s54_65, s54_66, s54_70, s54_73, s54_74, s54_78, s54_79, s54_82, s54_85, s54_86, s54_87, s54_90, s54_92, s54_93, s54_94, s54_97, s54_99, s54_100, s54_103, s54_104, s54_107, s54_110, is_O, opt_s, opt_n, cat_0, cat_i, cat_r, true_and, Nat.zero_le, Nat.reduceAdd, Nat.reduceLeDiff, al_I, as_I, rl_R, ln_I, ln_R, nI_add, pk_mul, g_set, set_set, not_false_eq_true, gf0_0, gf0_1, gf0_2, gf1_0, gf1_1, gf1_2, gf1_3, gf1_4, gf1_5, gf1_6, gf1_7, gf1_8, gf1_9, gf1_10, gf1_11, gf2_0, gf2_1, gf2_2, gf3_0, gf3_1, gf4_0, gf4_1, gf4_2, gf5_0, gf5_1, gf5_2, gf5_3, gf6_0, gf6_1, gf6_2, gf6_3, gf6_4, gf6_5, gf6_6, gf7_0, gf7_1, gf7_2, gf7_3, gf7_4, gf7_5, pf0_0, pf0_1, pf0_2, pf1_0, pf1_1, pf1_2, pf1_3, pf1_4, pf1_5, pf1_6, pf1_7, pf1_8, pf1_9, pf1_10, pf1_11, pf2_0, pf2_1, pf2_2, pf3_0, pf3_1, pf4_0, pf4_1, pf4_2, pf5_0, pf5_1, pf5_2, pf5_3, pf6_0, pf6_1, pf6_2, pf6_3, pf6_4, pf6_5, pf6_6, pf7_0, pf7_1, pf7_2, pf7_3, pf7_4, pf7_5, ht]
  have k3 : ∀ q, q < t → ex_g (ex_set h t (cO 6 [.int 0, .null, .null, .int (nI P), .int (nI o), .int 0, .null])) q = ex_g h q := fun q hq => g_ne (by omega)
  by_cases ho : o = 0
  · subst ho
    rw [if_neg (fun z => z rfl)]
    exact key _ (by rw [set_1]; exact lt) rfl k3 g_set
  · rw [if_pos (fun z => absurd ((nI_e (by omega) (by omega)).mp z) (by omega))]
    have := key (ex_set h t (cO 6 [.int 0, .null, .null, .int (nI P), .int (nI o), .int 0, .null])) lt rfl k3 g_set
    unfold bs at this
    rw [if_neg ho] at this
    exact this
end C4
