/-! THE REFERENCE's diagrams: layProduct, layDiagrams -/
def mTab (v : Nat) (A : Nat → Nat → Int32) : Prop := A 0 1 = nI (tC v) ∧ (∀ d, d < tC v → ∀ j, j < 2 * v → A 5 (10 * d + j) = nI (tR v d j)) ∧ (∀ d, d < tC v → A 6 (tCode v d) = nI d) ∧ (∀ a, a < tC v → ∀ b, b < tC v → A 7 (42 * a + b) = nI (tP v a b) ∧ A 8 (42 * a + b) = nI (tQ v a b))
section M3
variable {M : Nat} {A : Nat → Nat → Int32} {g h : ex_Hp} {X : Option Value → ex_Hp → Prop} {v a b : Nat} {f0 : Nat → Int32}
theorem l_lp2 {l1 l2 : Value} (h2 : v ≤ 5) (hv : A 1 0 = nI v) (hX : ∀ f : Nat → Int32, (∀ j, j < v → f j = nI 0) → ex_W 103 25 [.ref M, l1, l2, .int (nI v), oU] [] (mdl M (ua A 11 f) g) X) : ∀ (n t : Nat) (f : Nat → Int32), n + t = v → (∀ j, j < t → f j = nI 0) → ex_W 103 2 [.ref M, l1, l2, .int (nI t), oU] [] (mdl M (ua A 11 f) g) X := by
  intro n
  induction n with
  | zero =>
    intro t f hn hf
    obtain rfl : t = v := by omega
    rw [s103_2]
    simp only [s103_0, s103_1, s103_3, s103_4, s103_7, s103_8, s103_9, s103_12, s103_13, s103_16, s103_17, s103_18, s103_19, s103_22, s103_26, s103_27, s103_28, s103_29, s103_32, s103_35, s103_36, s103_39, s103_40, s103_41, s103_42, s103_45, s103_46, s103_47, s103_50, s103_51, s103_52, s103_53, s103_54, s103_57, s103_60, s103_61, s103_62, s103_63, s103_64, s103_67, s103_68, s103_71, s103_74, s103_75, s103_76, s103_77, s103_79, s103_81, s103_82, s103_85, s103_86, s103_87, s103_90, s103_91, s103_94, s103_96, s103_97, s103_100, s103_101, s103_102, s103_103, s103_105, s103_108, s103_111, s103_114, s103_117, s103_118, s103_121, s103_123, s103_124, s103_125, s103_126, s103_127, s103_128, s103_131, s103_132, s103_133, s103_136, s103_138, s103_139, s103_140, s103_141, s103_142, s103_143, s103_144, mis, mg1, mg2, mg3, mg4, mg5, mg6, mg7, mg8, mg9, mg10, mg11, mg12, mg13, mg14, mg15, mg16, mg17, mg18, mg19, mg20, mg21, mg22, ms1, ms2, ms3, ms4, ms5, ms6, ms7, ms8, ms9, ms10, ms11, ms12, ms13, ms14, ms15, ms16, ms17, ms18, ms19, ms20, ms21, ms22, mf0, mf1, mf2, mf3, mf4, mf5, mf6, mf7, mf8, mf9, mf10, mf11, mf12, mf13, mf14, mf15, mf16, mf17, mf18, mf19, mf20, mf21, mf22, mf23, mf24, mf25, mf26, mp4, mp7, mp22, mp25, mp26, mq_0, al_I, as_I, zl_Z, zs_0, zs_1, Nat.reduceAdd, Nat.reduceLeDiff, Nat.zero_le, cat_0, cat_i, cat_r, opt_n, opt_s, true_and, nI_add, pk_mul, ua_ua, ua_s, ua_n, not_false_eq_true, Nat.reduceEqDiff, hv, xi_n (show 0 < 213 by decide) (by decide)]
    rw [if_pos ((nI_l1 (by omega) (by omega)).mpr (by omega))]
    exact hX f hf
  | succ n ih =>
    intro t f hn hf
    rw [s103_2]
    simp only [s103_0, s103_1, s103_3, s103_4, s103_7, s103_8, s103_9, s103_12, s103_13, s103_16, s103_17, s103_18, s103_19, s103_22, s103_26, s103_27, s103_28, s103_29, s103_32, s103_35, s103_36, s103_39, s103_40, s103_41, s103_42, s103_45, s103_46, s103_47, s103_50, s103_51, s103_52, s103_53, s103_54, s103_57, s103_60, s103_61, s103_62, s103_63, s103_64, s103_67, s103_68, s103_71, s103_74, s103_75, s103_76, s103_77, s103_79, s103_81, s103_82, s103_85, s103_86, s103_87, s103_90, s103_91, s103_94, s103_96, s103_97, s103_100, s103_101, s103_102, s103_103, s103_105, s103_108, s103_111, s103_114, s103_117, s103_118, s103_121, s103_123, s103_124, s103_125, s103_126, s103_127, s103_128, s103_131, s103_132, s103_133, s103_136, s103_138, s103_139, s103_140, s103_141, s103_142, s103_143, s103_144, mis, mg1, mg2, mg3, mg4, mg5, mg6, mg7, mg8, mg9, mg10, mg11, mg12, mg13, mg14, mg15, mg16, mg17, mg18, mg19, mg20, mg21, mg22, ms1, ms2, ms3, ms4, ms5, ms6, ms7, ms8, ms9, ms10, ms11, ms12, ms13, ms14, ms15, ms16, ms17, ms18, ms19, ms20, ms21, ms22, mf0, mf1, mf2, mf3, mf4, mf5, mf6, mf7, mf8, mf9, mf10, mf11, mf12, mf13, mf14, mf15, mf16, mf17, mf18, mf19, mf20, mf21, mf22, mf23, mf24, mf25, mf26, mp4, mp7, mp22, mp25, mp26, mq_0, al_I, as_I, zl_Z, zs_0, zs_1, Nat.reduceAdd, Nat.reduceLeDiff, Nat.zero_le, cat_0, cat_i, cat_r, opt_n, opt_s, true_and, nI_add, pk_mul, ua_ua, ua_s, ua_n, not_false_eq_true, Nat.reduceEqDiff, hv, xi_n (show 0 < 213 by decide) (show 213 < 2147483648 by decide), xi_n (show t < 5 by omega) (show 5 < 2147483648 by decide)]
    rw [if_neg (fun z => absurd ((nI_l1 (by omega) (by omega)).mp z) (by omega))]
    refine ih (t + 1) _ (by omega) (fun j hj => ?_)
    by_cases hjt : j = t
    · subst hjt; exact pk_us
    · rw [pk_un hjt]; exact hf j (by omega)
theorem r_layProduct (h1 : 1 ≤ v) (h2 : v ≤ 5) (ha : a < tC v) (hb : b < tC v) (hv : A 1 0 = nI v) (hR : ∀ d, d < tC v → ∀ j, j < 2 * v → A 5 (10 * d + j) = nI (tR v d j)) (hN : ∀ d, d < tC v → A 6 (tCode v d) = nI d)
    (hX : ∀ B : Nat → Nat → Int32, (∀ k, ¬ k = 7 → ¬ k = 8 → ¬ k = 9 → ¬ k = 11 → B k = A k) → B 7 = upd (A 7) (42 * a + b) (nI (tP v a b)) → B 8 = upd (A 8) (42 * a + b) (nI (tQ v a b)) → X none (mdl M B g)) :
    ex_W 103 0 [.ref M, .int (nI a), .int (nI b), oU, oU] [] (mdl M A g) X := by
  have hC := tC_le h1 h2
  obtain ⟨ms, ws, e1, e2, e3⟩ := tLp h1 h2 ha hb
  have hPl := tP_lt h1 h2 ha hb
  rw [s103_0, s103_1]
  have h0 := l_lp2 (M := M) (A := A) (g := g) (X := X) (v := v) (l1 := .int (nI a)) (l2 := .int (nI b)) h2 hv ?_ v 0 (A 11) (by omega) (fun j hj => by omega)
  · rw [ua_id] at h0
    exact h0
  intro f hf
  rw [s103_25, s103_26]
  have h3 := l_lp27 (M := M) (A := A) (g := g) (X := X) (f0 := f) (W0 := A 9) h1 h2 ha hb hv hR (2 * v) 0 [] [] (by omega) e1 ?_
  · have w0 : wr [] (A 9) = A 9 := rfl
    have z0 : mz [] f = f := by funext j; simp [mz]
    rw [w0, ua_id, z0] at h3
    exact h3
  rw [s103_74, s103_75, s103_76, s103_77]
  have hR' : ∀ d, d < tC v → ∀ j, j < 2 * v → (ua A 9 (wr ws (A 9))) 5 (10 * d + j) = nI (tR v d j) := fun d hd j hj => by rw [ua_n (by decide)]; exact hR d hd j hj
  have hv' : (ua A 9 (wr ws (A 9))) 1 0 = nI v := by rw [ua_n (by decide)]; exact hv
  refine l_lp79 (A := ua A 9 (wr ws (A 9))) (f0 := f) h1 h2 ha hb hv' hf hR' v 0 ms 0 (by omega) (by omega) e3 (fun f2 => ?_)
  simp only [s103_0, s103_1, s103_2, s103_3, s103_4, s103_7, s103_8, s103_9, s103_12, s103_13, s103_16, s103_17, s103_18, s103_19, s103_22, s103_25, s103_26, s103_27, s103_28, s103_29, s103_32, s103_35, s103_36, s103_39, s103_40, s103_41, s103_42, s103_45, s103_46, s103_47, s103_50, s103_51, s103_52, s103_53, s103_54, s103_57, s103_60, s103_61, s103_62, s103_63, s103_64, s103_67, s103_68, s103_71, s103_74, s103_75, s103_76, s103_77, s103_79, s103_81, s103_82, s103_85, s103_86, s103_87, s103_90, s103_91, s103_94, s103_96, s103_97, s103_100, s103_101, s103_102, s103_103, s103_105, s103_108, s103_111, s103_114, s103_117, s103_118, s103_121, s103_123, s103_124, s103_125, s103_126, s103_127, s103_128, s103_131, s103_132, s103_133, s103_136, s103_138, s103_139, s103_140, s103_141, s103_142, s103_143, s103_144, mis, mg1, mg2, mg3, mg4, mg5, mg6, mg7, mg8, mg9, mg10, mg11, mg12, mg13, mg14, mg15, mg16, mg17, mg18, mg19, mg20, mg21, mg22, ms1, ms2, ms3, ms4, ms5, ms6, ms7, ms8, ms9, ms10, ms11, ms12, ms13, ms14, ms15, ms16, ms17, ms18, ms19, ms20, ms21, ms22, mf0, mf1, mf2, mf3, mf4, mf5, mf6, mf7, mf8, mf9, mf10, mf11, mf12, mf13, mf14, mf15, mf16, mf17, mf18, mf19, mf20, mf21, mf22, mf23, mf24, mf25, mf26, mp4, mp7, mp22, mp25, mp26, mq_0, al_I, as_I, zl_Z, zs_0, zs_1, Nat.reduceAdd, Nat.reduceLeDiff, Nat.zero_le, cat_0, cat_i, cat_r, opt_n, opt_s, true_and, nI_add, pk_mul, ua_ua, ua_s, ua_n, not_false_eq_true, Nat.reduceEqDiff]
  refine r_indexOfRow (d := tP v a b) h1 h2 hPl.1 (by rw [ua_n (by decide)]; exact hv') (fun j hj => ?_) (by rw [ua_n (by decide), ua_n (by decide)]; exact hN _ hPl.1) ?_
  · rw [ua_n (by decide), ua_s]
    unfold wr
    rw [e2 j hj]
  simp only [s103_0, s103_1, s103_2, s103_3, s103_4, s103_7, s103_8, s103_9, s103_12, s103_13, s103_16, s103_17, s103_18, s103_19, s103_22, s103_25, s103_26, s103_27, s103_28, s103_29, s103_32, s103_35, s103_36, s103_39, s103_40, s103_41, s103_42, s103_45, s103_46, s103_47, s103_50, s103_51, s103_52, s103_53, s103_54, s103_57, s103_60, s103_61, s103_62, s103_63, s103_64, s103_67, s103_68, s103_71, s103_74, s103_75, s103_76, s103_77, s103_79, s103_81, s103_82, s103_85, s103_86, s103_87, s103_90, s103_91, s103_94, s103_96, s103_97, s103_100, s103_101, s103_102, s103_103, s103_105, s103_108, s103_111, s103_114, s103_117, s103_118, s103_121, s103_123, s103_124, s103_125, s103_126, s103_127, s103_128, s103_131, s103_132, s103_133, s103_136, s103_138, s103_139, s103_140, s103_141, s103_142, s103_143, s103_144, mis, mg1, mg2, mg3, mg4, mg5, mg6, mg7, mg8, mg9, mg10, mg11, mg12, mg13, mg14, mg15, mg16, mg17, mg18, mg19, mg20, mg21, mg22, ms1, ms2, ms3, ms4, ms5, ms6, ms7, ms8, ms9, ms10, ms11, ms12, ms13, ms14, ms15, ms16, ms17, ms18, ms19, ms20, ms21, ms22, mf0, mf1, mf2, mf3, mf4, mf5, mf6, mf7, mf8, mf9, mf10, mf11, mf12, mf13, mf14, mf15, mf16, mf17, mf18, mf19, mf20, mf21, mf22, mf23, mf24, mf25, mf26, mp4, mp7, mp22, mp25, mp26, mq_0, al_I, as_I, zl_Z, zs_0, zs_1, Nat.reduceAdd, Nat.reduceLeDiff, Nat.zero_le, cat_0, cat_i, cat_r, opt_n, opt_s, true_and, nI_add, pk_mul, ua_ua, ua_s, ua_n, not_false_eq_true, Nat.reduceEqDiff, xi_n (show 42 * a + b < 1764 by omega) (show 1764 < 2147483648 by decide)]
  refine hX _ (fun k k7 k8 k9 k11 => ?_) ?_ ?_
  · rw [ua_n k8, ua_n k7, ua_n k11, ua_n k9]
  · rw [ua_n (by decide), ua_s]
  · rw [ua_s]
theorem tLt_k : all5 (fun v => decide (tIdx v 0 = 0) && decide (tIdx v (2 ^ (2 * v)) = tC v) && allN (2 ^ (2 * v)) (fun t => match ltx (2 * v) t (2 * v) 0 [] [] with
  | none => decide (tIdx v (t + 1) = tIdx v t)
  | some ws => decide (tIdx v (t + 1) = tIdx v t + 1) && decide (tCode v (tIdx v t) = t) && decide (tIdx v t < tC v) && allN (2 * v) (fun j => decide (ws.lookup j = some (tR v (tIdx v t) j))))) = true := by decide +kernel
theorem tLt0 (h1 : 1 ≤ v) (h2 : v ≤ 5) : tIdx v 0 = 0 ∧ tIdx v (2 ^ (2 * v)) = tC v := by
  have q := all5_of tLt_k h1 h2
  simp only [Bool.and_eq_true, decide_eq_true_eq] at q
  exact q.1
theorem tLtN {t : Nat} (h1 : 1 ≤ v) (h2 : v ≤ 5) (ht : t < 2 ^ (2 * v)) (hn : ltx (2 * v) t (2 * v) 0 [] [] = none) : tIdx v (t + 1) = tIdx v t := by
  have q := all5_of tLt_k h1 h2
  simp only [Bool.and_eq_true] at q
  have q2 := allN_of q.2 ht
  rw [hn] at q2
  exact of_decide_eq_true q2
theorem tLtS {t : Nat} {ws : List (Nat × Nat)} (h1 : 1 ≤ v) (h2 : v ≤ 5) (ht : t < 2 ^ (2 * v)) (hn : ltx (2 * v) t (2 * v) 0 [] [] = some ws) : tIdx v (t + 1) = tIdx v t + 1 ∧ tCode v (tIdx v t) = t ∧ tIdx v t < tC v ∧ ∀ j, j < 2 * v → ws.lookup j = some (tR v (tIdx v t) j) := by
  have q := all5_of tLt_k h1 h2
  simp only [Bool.and_eq_true] at q
  have q2 := allN_of q.2 ht
  rw [hn] at q2
  simp only [Bool.and_eq_true, decide_eq_true_eq] at q2
  exact ⟨q2.1.1.1, q2.1.1.2, q2.1.2, fun j hj => of_decide_eq_true (allN_of q2.2 hj)⟩
theorem l_ld27 {n0 : Nat} {l1 : Value} (h1 : 1 ≤ v) (h2 : v ≤ 5) (hn0 : n0 < 42) (hv : A 1 0 = nI v) (hd : A 0 1 = nI n0) (hX : ∀ f : Nat → Int32, (∀ q, f q = if 10 * n0 ≤ q ∧ q < 10 * n0 + 2 * v then A 9 (q - 10 * n0) else A 5 q) → ex_W 99 61 [.ref M, l1, .int (nI (2 * v))] [] (mdl M (ua A 5 f) g) X) : ∀ (n p : Nat) (f : Nat → Int32), n + p = 2 * v → (∀ q, f q = if 10 * n0 ≤ q ∧ q < 10 * n0 + p then A 9 (q - 10 * n0) else A 5 q) → ex_W 99 27 [.ref M, l1, .int (nI p)] [] (mdl M (ua A 5 f) g) X := by
  intro n
  induction n with
  | zero =>
    intro p f hn hf
    obtain rfl : p = 2 * v := by omega
    rw [s99_27]
    simp only [s99_0, s99_1, s99_2, s99_5, s99_6, s99_7, s99_8, s99_9, s99_10, s99_13, s99_14, s99_17, s99_18, s99_19, s99_22, s99_25, s99_26, s99_28, s99_29, s99_32, s99_35, s99_36, s99_39, s99_41, s99_42, s99_45, s99_46, s99_47, s99_48, s99_49, s99_52, s99_53, s99_54, s99_55, s99_58, s99_62, s99_65, s99_66, s99_67, s99_70, s99_71, s99_72, s99_73, s99_76, s99_77, s99_78, s99_81, s99_84, s99_87, s99_88, s99_89, s99_90, s99_91, s99_94, s99_97, s99_98, s99_99, s99_100, s99_101, s99_104, s99_107, s99_108, s99_109, s99_110, s99_113, s99_116, s99_119, s99_122, s99_125, mis, mg1, mg2, mg3, mg4, mg5, mg6, mg7, mg8, mg9, mg10, mg11, mg12, mg13, mg14, mg15, mg16, mg17, mg18, mg19, mg20, mg21, mg22, ms1, ms2, ms3, ms4, ms5, ms6, ms7, ms8, ms9, ms10, ms11, ms12, ms13, ms14, ms15, ms16, ms17, ms18, ms19, ms20, ms21, ms22, mf0, mf1, mf2, mf3, mf4, mf5, mf6, mf7, mf8, mf9, mf10, mf11, mf12, mf13, mf14, mf15, mf16, mf17, mf18, mf19, mf20, mf21, mf22, mf23, mf24, mf25, mf26, mp4, mp7, mp22, mp25, mp26, mq_0, al_I, as_I, zl_Z, zs_0, zs_1, Nat.reduceAdd, Nat.reduceLeDiff, Nat.zero_le, cat_0, cat_i, cat_r, opt_n, opt_s, true_and, nI_add, pk_mul, ua_ua, ua_s, ua_n, not_false_eq_true, Nat.reduceEqDiff, r_points, hv]
    rw [if_pos ((nI_l1 (by omega) (by omega)).mpr (by omega))]
    exact hX f hf
  | succ n ih =>
    intro p f hn hf
    rw [s99_27]
    simp only [s99_0, s99_1, s99_2, s99_5, s99_6, s99_7, s99_8, s99_9, s99_10, s99_13, s99_14, s99_17, s99_18, s99_19, s99_22, s99_25, s99_26, s99_28, s99_29, s99_32, s99_35, s99_36, s99_39, s99_41, s99_42, s99_45, s99_46, s99_47, s99_48, s99_49, s99_52, s99_53, s99_54, s99_55, s99_58, s99_62, s99_65, s99_66, s99_67, s99_70, s99_71, s99_72, s99_73, s99_76, s99_77, s99_78, s99_81, s99_84, s99_87, s99_88, s99_89, s99_90, s99_91, s99_94, s99_97, s99_98, s99_99, s99_100, s99_101, s99_104, s99_107, s99_108, s99_109, s99_110, s99_113, s99_116, s99_119, s99_122, s99_125, mis, mg1, mg2, mg3, mg4, mg5, mg6, mg7, mg8, mg9, mg10, mg11, mg12, mg13, mg14, mg15, mg16, mg17, mg18, mg19, mg20, mg21, mg22, ms1, ms2, ms3, ms4, ms5, ms6, ms7, ms8, ms9, ms10, ms11, ms12, ms13, ms14, ms15, ms16, ms17, ms18, ms19, ms20, ms21, ms22, mf0, mf1, mf2, mf3, mf4, mf5, mf6, mf7, mf8, mf9, mf10, mf11, mf12, mf13, mf14, mf15, mf16, mf17, mf18, mf19, mf20, mf21, mf22, mf23, mf24, mf25, mf26, mp4, mp7, mp22, mp25, mp26, mq_0, al_I, as_I, zl_Z, zs_0, zs_1, Nat.reduceAdd, Nat.reduceLeDiff, Nat.zero_le, cat_0, cat_i, cat_r, opt_n, opt_s, true_and, nI_add, pk_mul, ua_ua, ua_s, ua_n, not_false_eq_true, Nat.reduceEqDiff, r_points, hv, hd, xi_n (show p < 10 by omega) (show 10 < 2147483648 by decide), xi_n (show 10 * n0 + p < 420 by omega) (show 420 < 2147483648 by decide)]
    rw [if_neg (fun z => absurd ((nI_l1 (by omega) (by omega)).mp z) (by omega))]
    refine ih (p + 1) _ (by omega) (fun q => ?_)
    by_cases hq : q = 10 * n0 + p
    · subst hq
      rw [pk_us, if_pos (by omega), show 10 * n0 + p - 10 * n0 = p by omega]
    · rw [pk_un hq, hf q]
      by_cases hq2 : 10 * n0 ≤ q ∧ q < 10 * n0 + p
      · rw [if_pos hq2, if_pos (by omega)]
      · rw [if_neg hq2, if_neg (by omega)]
theorem l_ld99 (h1 : 1 ≤ v) (h2 : v ≤ 5) {A0 : Nat → Nat → Int32} (ha : a < tC v) (hv : A0 1 0 = nI v) (hd : A0 0 1 = nI (tC v)) (hR : ∀ d, d < tC v → ∀ j, j < 2 * v → A0 5 (10 * d + j) = nI (tR v d j)) (hN : ∀ d, d < tC v → A0 6 (tCode v d) = nI d)
    (hX : ∀ B : Nat → Nat → Int32, (∀ k, ¬ k = 7 → ¬ k = 8 → ¬ k = 9 → ¬ k = 11 → B k = A0 k) → (∀ a', a' ≤ a → ∀ b', b' < tC v → B 7 (42 * a' + b') = nI (tP v a' b') ∧ B 8 (42 * a' + b') = nI (tQ v a' b')) → ex_W 99 119 [.ref M, .int (nI a), .int (nI (tC v))] [] (mdl M B g) X) :
    ∀ (n b : Nat) (A : Nat → Nat → Int32), n + b = tC v → (∀ k, ¬ k = 7 → ¬ k = 8 → ¬ k = 9 → ¬ k = 11 → A k = A0 k) → (∀ a', a' ≤ a → ∀ b', b' < tC v → (a' < a ∨ b' < b) → A 7 (42 * a' + b') = nI (tP v a' b') ∧ A 8 (42 * a' + b') = nI (tQ v a' b')) → ex_W 99 99 [.ref M, .int (nI a), .int (nI b)] [] (mdl M A g) X := by
  have hC := tC_le h1 h2
  intro n
  induction n with
  | zero =>
    intro b A hn hA hP
    obtain rfl : b = tC v := by omega
    rw [s99_99]
    simp only [s99_0, s99_1, s99_2, s99_5, s99_6, s99_7, s99_8, s99_9, s99_10, s99_13, s99_14, s99_17, s99_18, s99_19, s99_22, s99_25, s99_26, s99_27, s99_28, s99_29, s99_32, s99_35, s99_36, s99_39, s99_41, s99_42, s99_45, s99_46, s99_47, s99_48, s99_49, s99_52, s99_53, s99_54, s99_55, s99_58, s99_61, s99_62, s99_65, s99_66, s99_67, s99_70, s99_71, s99_72, s99_73, s99_76, s99_77, s99_78, s99_81, s99_84, s99_87, s99_88, s99_89, s99_90, s99_91, s99_94, s99_97, s99_98, s99_100, s99_101, s99_104, s99_107, s99_108, s99_109, s99_110, s99_113, s99_116, s99_122, s99_125, mis, mg1, mg2, mg3, mg4, mg5, mg6, mg7, mg8, mg9, mg10, mg11, mg12, mg13, mg14, mg15, mg16, mg17, mg18, mg19, mg20, mg21, mg22, ms1, ms2, ms3, ms4, ms5, ms6, ms7, ms8, ms9, ms10, ms11, ms12, ms13, ms14, ms15, ms16, ms17, ms18, ms19, ms20, ms21, ms22, mf0, mf1, mf2, mf3, mf4, mf5, mf6, mf7, mf8, mf9, mf10, mf11, mf12, mf13, mf14, mf15, mf16, mf17, mf18, mf19, mf20, mf21, mf22, mf23, mf24, mf25, mf26, mp4, mp7, mp22, mp25, mp26, mq_0, al_I, as_I, zl_Z, zs_0, zs_1, Nat.reduceAdd, Nat.reduceLeDiff, Nat.zero_le, cat_0, cat_i, cat_r, opt_n, opt_s, true_and, nI_add, pk_mul, ua_ua, ua_s, ua_n, not_false_eq_true, Nat.reduceEqDiff, hA 0 (by decide) (by decide) (by decide) (by decide), hd]
    rw [if_pos ((nI_l1 (by omega) (by omega)).mpr (by omega))]
    exact hX A hA (fun a' ha' b' hb' => hP a' ha' b' hb' (Or.inr hb'))
  | succ n ih =>
    intro b A hn hA hP
    rw [s99_99]
    simp only [s99_0, s99_1, s99_2, s99_5, s99_6, s99_7, s99_8, s99_9, s99_10, s99_13, s99_14, s99_17, s99_18, s99_19, s99_22, s99_25, s99_26, s99_27, s99_28, s99_29, s99_32, s99_35, s99_36, s99_39, s99_41, s99_42, s99_45, s99_46, s99_47, s99_48, s99_49, s99_52, s99_53, s99_54, s99_55, s99_58, s99_61, s99_62, s99_65, s99_66, s99_67, s99_70, s99_71, s99_72, s99_73, s99_76, s99_77, s99_78, s99_81, s99_84, s99_87, s99_88, s99_89, s99_90, s99_91, s99_94, s99_97, s99_98, s99_100, s99_101, s99_104, s99_107, s99_108, s99_109, s99_110, s99_113, s99_116, s99_122, s99_125, mis, mg1, mg2, mg3, mg4, mg5, mg6, mg7, mg8, mg9, mg10, mg11, mg12, mg13, mg14, mg15, mg16, mg17, mg18, mg19, mg20, mg21, mg22, ms1, ms2, ms3, ms4, ms5, ms6, ms7, ms8, ms9, ms10, ms11, ms12, ms13, ms14, ms15, ms16, ms17, ms18, ms19, ms20, ms21, ms22, mf0, mf1, mf2, mf3, mf4, mf5, mf6, mf7, mf8, mf9, mf10, mf11, mf12, mf13, mf14, mf15, mf16, mf17, mf18, mf19, mf20, mf21, mf22, mf23, mf24, mf25, mf26, mp4, mp7, mp22, mp25, mp26, mq_0, al_I, as_I, zl_Z, zs_0, zs_1, Nat.reduceAdd, Nat.reduceLeDiff, Nat.zero_le, cat_0, cat_i, cat_r, opt_n, opt_s, true_and, nI_add, pk_mul, ua_ua, ua_s, ua_n, not_false_eq_true, Nat.reduceEqDiff, hA 0 (by decide) (by decide) (by decide) (by decide), hd]
    rw [if_neg (fun z => absurd ((nI_l1 (by omega) (by omega)).mp z) (by omega))]
    have hA1 := hA 1 (by decide) (by decide) (by decide) (by decide)
    have hA5 := hA 5 (by decide) (by decide) (by decide) (by decide)
    have hA6 := hA 6 (by decide) (by decide) (by decide) (by decide)
    refine r_layProduct h1 h2 ha (by omega) (by rw [hA1]; exact hv) (by rw [hA5]; exact hR) (by rw [hA6]; exact hN) (fun B hB h7 h8 => ?_)
    simp only [s99_0, s99_1, s99_2, s99_5, s99_6, s99_7, s99_8, s99_9, s99_10, s99_13, s99_14, s99_17, s99_18, s99_19, s99_22, s99_25, s99_26, s99_27, s99_28, s99_29, s99_32, s99_35, s99_36, s99_39, s99_41, s99_42, s99_45, s99_46, s99_47, s99_48, s99_49, s99_52, s99_53, s99_54, s99_55, s99_58, s99_61, s99_62, s99_65, s99_66, s99_67, s99_70, s99_71, s99_72, s99_73, s99_76, s99_77, s99_78, s99_81, s99_84, s99_87, s99_88, s99_89, s99_90, s99_91, s99_94, s99_97, s99_98, s99_100, s99_101, s99_104, s99_107, s99_108, s99_109, s99_110, s99_113, s99_116, s99_122, s99_125, mis, mg1, mg2, mg3, mg4, mg5, mg6, mg7, mg8, mg9, mg10, mg11, mg12, mg13, mg14, mg15, mg16, mg17, mg18, mg19, mg20, mg21, mg22, ms1, ms2, ms3, ms4, ms5, ms6, ms7, ms8, ms9, ms10, ms11, ms12, ms13, ms14, ms15, ms16, ms17, ms18, ms19, ms20, ms21, ms22, mf0, mf1, mf2, mf3, mf4, mf5, mf6, mf7, mf8, mf9, mf10, mf11, mf12, mf13, mf14, mf15, mf16, mf17, mf18, mf19, mf20, mf21, mf22, mf23, mf24, mf25, mf26, mp4, mp7, mp22, mp25, mp26, mq_0, al_I, as_I, zl_Z, zs_0, zs_1, Nat.reduceAdd, Nat.reduceLeDiff, Nat.zero_le, cat_0, cat_i, cat_r, opt_n, opt_s, true_and, nI_add, pk_mul, ua_ua, ua_s, ua_n, not_false_eq_true, Nat.reduceEqDiff]
    refine ih (b + 1) B (by omega) (fun k k7 k8 k9 k11 => (hB k k7 k8 k9 k11).trans (hA k k7 k8 k9 k11)) (fun a' ha' b' hb' hor => ?_)
    rw [h7, h8]
    by_cases hq : a' = a ∧ b' = b
    · obtain ⟨rfl, rfl⟩ := hq
      exact ⟨pk_us, pk_us⟩
    · have hne : ¬ 42 * a' + b' = 42 * a + b := by omega
      rw [pk_un hne, pk_un hne]
      exact hP a' ha' b' hb' (by omega)
theorem l_ld89 (h1 : 1 ≤ v) (h2 : v ≤ 5) {A0 : Nat → Nat → Int32} (hv : A0 1 0 = nI v) (hd : A0 0 1 = nI (tC v)) (hR : ∀ d, d < tC v → ∀ j, j < 2 * v → A0 5 (10 * d + j) = nI (tR v d j)) (hN : ∀ d, d < tC v → A0 6 (tCode v d) = nI d)
    (hX : ∀ B : Nat → Nat → Int32, (∀ k, ¬ k = 7 → ¬ k = 8 → ¬ k = 9 → ¬ k = 11 → B k = A0 k) → (∀ a', a' < tC v → ∀ b', b' < tC v → B 7 (42 * a' + b') = nI (tP v a' b') ∧ B 8 (42 * a' + b') = nI (tQ v a' b')) → X none (mdl M B g)) :
    ∀ (n a : Nat) (l2 : Value) (A : Nat → Nat → Int32), n + a = tC v → (∀ k, ¬ k = 7 → ¬ k = 8 → ¬ k = 9 → ¬ k = 11 → A k = A0 k) → (∀ a', a' < a → ∀ b', b' < tC v → A 7 (42 * a' + b') = nI (tP v a' b') ∧ A 8 (42 * a' + b') = nI (tQ v a' b')) → ex_W 99 89 [.ref M, .int (nI a), l2] [] (mdl M A g) X := by
  have hC := tC_le h1 h2
  intro n
  induction n with
  | zero =>
    intro a l2 A hn hA hP
    obtain rfl : a = tC v := by omega
    rw [s99_89]
    simp only [s99_0, s99_1, s99_2, s99_5, s99_6, s99_7, s99_8, s99_9, s99_10, s99_13, s99_14, s99_17, s99_18, s99_19, s99_22, s99_25, s99_26, s99_27, s99_28, s99_29, s99_32, s99_35, s99_36, s99_39, s99_41, s99_42, s99_45, s99_46, s99_47, s99_48, s99_49, s99_52, s99_53, s99_54, s99_55, s99_58, s99_61, s99_62, s99_65, s99_66, s99_67, s99_70, s99_71, s99_72, s99_73, s99_76, s99_77, s99_78, s99_81, s99_84, s99_87, s99_88, s99_90, s99_91, s99_94, s99_97, s99_98, s99_100, s99_101, s99_104, s99_107, s99_108, s99_109, s99_110, s99_113, s99_116, s99_119, s99_122, s99_125, mis, mg1, mg2, mg3, mg4, mg5, mg6, mg7, mg8, mg9, mg10, mg11, mg12, mg13, mg14, mg15, mg16, mg17, mg18, mg19, mg20, mg21, mg22, ms1, ms2, ms3, ms4, ms5, ms6, ms7, ms8, ms9, ms10, ms11, ms12, ms13, ms14, ms15, ms16, ms17, ms18, ms19, ms20, ms21, ms22, mf0, mf1, mf2, mf3, mf4, mf5, mf6, mf7, mf8, mf9, mf10, mf11, mf12, mf13, mf14, mf15, mf16, mf17, mf18, mf19, mf20, mf21, mf22, mf23, mf24, mf25, mf26, mp4, mp7, mp22, mp25, mp26, mq_0, al_I, as_I, zl_Z, zs_0, zs_1, Nat.reduceAdd, Nat.reduceLeDiff, Nat.zero_le, cat_0, cat_i, cat_r, opt_n, opt_s, true_and, nI_add, pk_mul, ua_ua, ua_s, ua_n, not_false_eq_true, Nat.reduceEqDiff, hA 0 (by decide) (by decide) (by decide) (by decide), hd]
    rw [if_pos ((nI_l1 (by omega) (by omega)).mpr (by omega))]
    exact hX A hA hP
  | succ n ih =>
    intro a l2 A hn hA hP
    rw [s99_89]
    simp only [s99_0, s99_1, s99_2, s99_5, s99_6, s99_7, s99_8, s99_9, s99_10, s99_13, s99_14, s99_17, s99_18, s99_19, s99_22, s99_25, s99_26, s99_27, s99_28, s99_29, s99_32, s99_35, s99_36, s99_39, s99_41, s99_42, s99_45, s99_46, s99_47, s99_48, s99_49, s99_52, s99_53, s99_54, s99_55, s99_58, s99_61, s99_62, s99_65, s99_66, s99_67, s99_70, s99_71, s99_72, s99_73, s99_76, s99_77, s99_78, s99_81, s99_84, s99_87, s99_88, s99_90, s99_91, s99_94, s99_97, s99_98, s99_100, s99_101, s99_104, s99_107, s99_108, s99_109, s99_110, s99_113, s99_116, s99_119, s99_122, s99_125, mis, mg1, mg2, mg3, mg4, mg5, mg6, mg7, mg8, mg9, mg10, mg11, mg12, mg13, mg14, mg15, mg16, mg17, mg18, mg19, mg20, mg21, mg22, ms1, ms2, ms3, ms4, ms5, ms6, ms7, ms8, ms9, ms10, ms11, ms12, ms13, ms14, ms15, ms16, ms17, ms18, ms19, ms20, ms21, ms22, mf0, mf1, mf2, mf3, mf4, mf5, mf6, mf7, mf8, mf9, mf10, mf11, mf12, mf13, mf14, mf15, mf16, mf17, mf18, mf19, mf20, mf21, mf22, mf23, mf24, mf25, mf26, mp4, mp7, mp22, mp25, mp26, mq_0, al_I, as_I, zl_Z, zs_0, zs_1, Nat.reduceAdd, Nat.reduceLeDiff, Nat.zero_le, cat_0, cat_i, cat_r, opt_n, opt_s, true_and, nI_add, pk_mul, ua_ua, ua_s, ua_n, not_false_eq_true, Nat.reduceEqDiff, hA 0 (by decide) (by decide) (by decide) (by decide), hd]
    rw [if_neg (fun z => absurd ((nI_l1 (by omega) (by omega)).mp z) (by omega))]
    refine l_ld99 h1 h2 (by omega) hv hd hR hN (fun B hB hP2 => ?_) (tC v) 0 A (by omega) hA (fun a' ha' b' hb' hor => hP a' (by omega) b' hb')
    simp only [s99_0, s99_1, s99_2, s99_5, s99_6, s99_7, s99_8, s99_9, s99_10, s99_13, s99_14, s99_17, s99_18, s99_19, s99_22, s99_25, s99_26, s99_27, s99_28, s99_29, s99_32, s99_35, s99_36, s99_39, s99_41, s99_42, s99_45, s99_46, s99_47, s99_48, s99_49, s99_52, s99_53, s99_54, s99_55, s99_58, s99_61, s99_62, s99_65, s99_66, s99_67, s99_70, s99_71, s99_72, s99_73, s99_76, s99_77, s99_78, s99_81, s99_84, s99_87, s99_88, s99_90, s99_91, s99_94, s99_97, s99_98, s99_100, s99_101, s99_104, s99_107, s99_108, s99_109, s99_110, s99_113, s99_116, s99_119, s99_122, s99_125, mis, mg1, mg2, mg3, mg4, mg5, mg6, mg7, mg8, mg9, mg10, mg11, mg12, mg13, mg14, mg15, mg16, mg17, mg18, mg19, mg20, mg21, mg22, ms1, ms2, ms3, ms4, ms5, ms6, ms7, ms8, ms9, ms10, ms11, ms12, ms13, ms14, ms15, ms16, ms17, ms18, ms19, ms20, ms21, ms22, mf0, mf1, mf2, mf3, mf4, mf5, mf6, mf7, mf8, mf9, mf10, mf11, mf12, mf13, mf14, mf15, mf16, mf17, mf18, mf19, mf20, mf21, mf22, mf23, mf24, mf25, mf26, mp4, mp7, mp22, mp25, mp26, mq_0, al_I, as_I, zl_Z, zs_0, zs_1, Nat.reduceAdd, Nat.reduceLeDiff, Nat.zero_le, cat_0, cat_i, cat_r, opt_n, opt_s, true_and, nI_add, pk_mul, ua_ua, ua_s, ua_n, not_false_eq_true, Nat.reduceEqDiff]
    exact ih (a + 1) _ B (by omega) hB (fun a' ha' b' hb' => hP2 a' (by omega) b' hb')
theorem l_ld7 {A0 : Nat → Nat → Int32} (h1 : 1 ≤ v) (h2 : v ≤ 5) (hv : A0 1 0 = nI v)
    (hX : ∀ (B : Nat → Nat → Int32) (l1 l2 : Value), (∀ k, ¬ k = 0 → ¬ k = 5 → ¬ k = 6 → ¬ k = 9 → ¬ k = 10 → B k = A0 k) → (∀ j, ¬ j = 1 → B 0 j = A0 0 j) → B 0 1 = nI (tC v) → (∀ d, d < tC v → ∀ j, j < 2 * v → B 5 (10 * d + j) = nI (tR v d j)) → (∀ d, d < tC v → B 6 (tCode v d) = nI d) → ex_W 99 87 [.ref M, l1, l2] [] (mdl M B g) X) :
    ∀ (n t : Nat) (l2 : Value) (A : Nat → Nat → Int32), n + t = 2 ^ (2 * v) → (∀ k, ¬ k = 0 → ¬ k = 5 → ¬ k = 6 → ¬ k = 9 → ¬ k = 10 → A k = A0 k) → (∀ j, ¬ j = 1 → A 0 j = A0 0 j) → A 0 1 = nI (tIdx v t) → (∀ d, d < tIdx v t → ∀ j, j < 2 * v → A 5 (10 * d + j) = nI (tR v d j)) → (∀ d, d < tIdx v t → A 6 (tCode v d) = nI d) → ex_W 99 7 [.ref M, .int (nI t), l2] [] (mdl M A g) X := by
  have hC := tC_le h1 h2
  have hpow : 2 ^ (2 * v) ≤ 2 ^ 10 := Nat.pow_le_pow_right (by decide) (by omega)
  have e0 : nI 1 <<< (nI (2 * v) &&& 31) = nI (2 ^ (2 * v)) := by rw [shl_n (by omega) (by omega), Nat.one_mul]
  intro n
  induction n with
  | zero =>
    intro t l2 A hn hA hA0 hd hR hN
    obtain rfl : t = 2 ^ (2 * v) := by omega
    rw [(tLt0 h1 h2).2] at hd hR hN
    rw [s99_7]
    simp only [s99_0, s99_1, s99_2, s99_5, s99_6, s99_8, s99_9, s99_10, s99_13, s99_14, s99_17, s99_18, s99_19, s99_22, s99_25, s99_26, s99_27, s99_28, s99_29, s99_32, s99_35, s99_36, s99_39, s99_41, s99_42, s99_45, s99_46, s99_47, s99_48, s99_49, s99_52, s99_53, s99_54, s99_55, s99_58, s99_61, s99_62, s99_65, s99_66, s99_67, s99_70, s99_71, s99_72, s99_73, s99_76, s99_77, s99_78, s99_81, s99_84, s99_88, s99_89, s99_90, s99_91, s99_94, s99_97, s99_98, s99_99, s99_100, s99_101, s99_104, s99_107, s99_108, s99_109, s99_110, s99_113, s99_116, s99_119, s99_122, s99_125, mis, mg1, mg2, mg3, mg4, mg5, mg6, mg7, mg8, mg9, mg10, mg11, mg12, mg13, mg14, mg15, mg16, mg17, mg18, mg19, mg20, mg21, mg22, ms1, ms2, ms3, ms4, ms5, ms6, ms7, ms8, ms9, ms10, ms11, ms12, ms13, ms14, ms15, ms16, ms17, ms18, ms19, ms20, ms21, ms22, mf0, mf1, mf2, mf3, mf4, mf5, mf6, mf7, mf8, mf9, mf10, mf11, mf12, mf13, mf14, mf15, mf16, mf17, mf18, mf19, mf20, mf21, mf22, mf23, mf24, mf25, mf26, mp4, mp7, mp22, mp25, mp26, mq_0, al_I, as_I, zl_Z, zs_0, zs_1, Nat.reduceAdd, Nat.reduceLeDiff, Nat.zero_le, cat_0, cat_i, cat_r, opt_n, opt_s, true_and, nI_add, pk_mul, ua_ua, ua_s, ua_n, not_false_eq_true, Nat.reduceEqDiff, r_points, hA 1 (by decide) (by decide) (by decide) (by decide) (by decide), hv, e0]
    rw [if_pos ((nI_l1 (by omega) (by omega)).mpr (by omega))]
    exact hX A _ _ hA hA0 hd hR hN
  | succ n ih =>
    intro t l2 A hn hA hA0 hd hR hN
    have hv' : A 1 0 = nI v := by rw [hA 1 (by decide) (by decide) (by decide) (by decide) (by decide)]; exact hv
    rw [s99_7]
    simp only [s99_0, s99_1, s99_2, s99_5, s99_6, s99_8, s99_9, s99_10, s99_13, s99_14, s99_17, s99_18, s99_19, s99_22, s99_25, s99_26, s99_28, s99_29, s99_32, s99_35, s99_36, s99_39, s99_41, s99_42, s99_45, s99_46, s99_47, s99_48, s99_49, s99_52, s99_53, s99_54, s99_55, s99_58, s99_61, s99_62, s99_65, s99_66, s99_67, s99_70, s99_71, s99_72, s99_73, s99_76, s99_77, s99_78, s99_81, s99_84, s99_88, s99_89, s99_90, s99_91, s99_94, s99_97, s99_98, s99_99, s99_100, s99_101, s99_104, s99_107, s99_108, s99_109, s99_110, s99_113, s99_116, s99_119, s99_122, s99_125, mis, mg1, mg2, mg3, mg4, mg5, mg6, mg7, mg8, mg9, mg10, mg11, mg12, mg13, mg14, mg15, mg16, mg17, mg18, mg19, mg20, mg21, mg22, ms1, ms2, ms3, ms4, ms5, ms6, ms7, ms8, ms9, ms10, ms11, ms12, ms13, ms14, ms15, ms16, ms17, ms18, ms19, ms20, ms21, ms22, mf0, mf1, mf2, mf3, mf4, mf5, mf6, mf7, mf8, mf9, mf10, mf11, mf12, mf13, mf14, mf15, mf16, mf17, mf18, mf19, mf20, mf21, mf22, mf23, mf24, mf25, mf26, mp4, mp7, mp22, mp25, mp26, mq_0, al_I, as_I, zl_Z, zs_0, zs_1, Nat.reduceAdd, Nat.reduceLeDiff, Nat.zero_le, cat_0, cat_i, cat_r, opt_n, opt_s, true_and, nI_add, pk_mul, ua_ua, ua_s, ua_n, not_false_eq_true, Nat.reduceEqDiff, r_points, hv', e0, s94_0, s94_1, s94_2, s94_3, s94_4, s94_5]
    rw [if_neg (fun z => absurd ((nI_l1 (by omega) (by omega)).mp z) (by omega))]
    refine l_layText (A0 := A) (f0 := A 9) h1 h2 (by omega) hv' (2 * v) 0 [] [] A (by omega) (by decide) (fun q hq => by cases hq) (fun j hj => by cases hj) rfl (fun _ _ _ => rfl) (fun B hB => ⟨fun ws hws hB9 => ?_, fun hnone => ?_⟩)
    · obtain ⟨t1, t2, t3, t4⟩ := tLtS h1 h2 (by omega) hws
      have hB1 := hB 1 (by decide) (by decide)
      have hB0 := hB 0 (by decide) (by decide)
      have hB5 := hB 5 (by decide) (by decide)
      have hB6 := hB 6 (by decide) (by decide)
      simp only [s99_0, s99_1, s99_2, s99_5, s99_6, s99_8, s99_9, s99_10, s99_13, s99_14, s99_17, s99_18, s99_19, s99_22, s99_25, s99_26, s99_28, s99_29, s99_32, s99_35, s99_36, s99_39, s99_41, s99_42, s99_45, s99_46, s99_47, s99_48, s99_49, s99_52, s99_53, s99_54, s99_55, s99_58, s99_61, s99_62, s99_65, s99_66, s99_67, s99_70, s99_71, s99_72, s99_73, s99_76, s99_77, s99_78, s99_81, s99_84, s99_88, s99_89, s99_90, s99_91, s99_94, s99_97, s99_98, s99_99, s99_100, s99_101, s99_104, s99_107, s99_108, s99_109, s99_110, s99_113, s99_116, s99_119, s99_122, s99_125, mis, mg1, mg2, mg3, mg4, mg5, mg6, mg7, mg8, mg9, mg10, mg11, mg12, mg13, mg14, mg15, mg16, mg17, mg18, mg19, mg20, mg21, mg22, ms1, ms2, ms3, ms4, ms5, ms6, ms7, ms8, ms9, ms10, ms11, ms12, ms13, ms14, ms15, ms16, ms17, ms18, ms19, ms20, ms21, ms22, mf0, mf1, mf2, mf3, mf4, mf5, mf6, mf7, mf8, mf9, mf10, mf11, mf12, mf13, mf14, mf15, mf16, mf17, mf18, mf19, mf20, mf21, mf22, mf23, mf24, mf25, mf26, mp4, mp7, mp22, mp25, mp26, mq_0, al_I, as_I, zl_Z, zs_0, zs_1, Nat.reduceAdd, Nat.reduceLeDiff, Nat.zero_le, cat_0, cat_i, cat_r, opt_n, opt_s, true_and, nI_add, pk_mul, ua_ua, ua_s, ua_n, not_false_eq_true, Nat.reduceEqDiff]
      rw [if_neg (by decide)]
      have h27 := l_ld27 (M := M) (A := B) (g := g) (X := X) (l1 := .int (nI t)) (n0 := tIdx v t) h1 h2 (by omega) (by rw [hB1]; exact hv') (by rw [hB0]; exact hd) (fun f hf => ?_) (2 * v) 0 (B 5) (by omega) (fun q => by rw [if_neg (by omega)])
      · rw [ua_id] at h27
        exact h27
      simp only [s99_0, s99_1, s99_2, s99_5, s99_6, s99_8, s99_9, s99_10, s99_13, s99_14, s99_17, s99_18, s99_19, s99_22, s99_25, s99_26, s99_28, s99_29, s99_32, s99_35, s99_36, s99_39, s99_41, s99_42, s99_45, s99_46, s99_47, s99_48, s99_49, s99_52, s99_53, s99_54, s99_55, s99_58, s99_61, s99_62, s99_65, s99_66, s99_67, s99_70, s99_71, s99_72, s99_73, s99_76, s99_77, s99_78, s99_81, s99_84, s99_88, s99_89, s99_90, s99_91, s99_94, s99_97, s99_98, s99_99, s99_100, s99_101, s99_104, s99_107, s99_108, s99_109, s99_110, s99_113, s99_116, s99_119, s99_122, s99_125, mis, mg1, mg2, mg3, mg4, mg5, mg6, mg7, mg8, mg9, mg10, mg11, mg12, mg13, mg14, mg15, mg16, mg17, mg18, mg19, mg20, mg21, mg22, ms1, ms2, ms3, ms4, ms5, ms6, ms7, ms8, ms9, ms10, ms11, ms12, ms13, ms14, ms15, ms16, ms17, ms18, ms19, ms20, ms21, ms22, mf0, mf1, mf2, mf3, mf4, mf5, mf6, mf7, mf8, mf9, mf10, mf11, mf12, mf13, mf14, mf15, mf16, mf17, mf18, mf19, mf20, mf21, mf22, mf23, mf24, mf25, mf26, mp4, mp7, mp22, mp25, mp26, mq_0, al_I, as_I, zl_Z, zs_0, zs_1, Nat.reduceAdd, Nat.reduceLeDiff, Nat.zero_le, cat_0, cat_i, cat_r, opt_n, opt_s, true_and, nI_add, pk_mul, ua_ua, ua_s, ua_n, not_false_eq_true, Nat.reduceEqDiff, hB0, hd, xi_n (show t < 1024 by omega) (show 1024 < 2147483648 by decide)]
      refine ih (t + 1) _ _ (by omega) (fun k k0 k5 k6 k9 k10 => ?_) (fun j hj => ?_) ?_ (fun d hdd j hj => ?_) (fun d hdd => ?_)
      · rw [ua_n k0, ua_n k6, ua_n k5, hB k k9 k10]
        exact hA k k0 k5 k6 k9 k10
      · rw [ua_s, pk_un hj]
        exact hA0 j hj
      · rw [ua_s, pk_us, t1]
      · rw [ua_n (by decide), ua_n (by decide), ua_s, hf]
        rw [t1] at hdd
        by_cases hdt : d = tIdx v t
        · subst hdt
          rw [if_pos (by omega), show 10 * tIdx v t + j - 10 * tIdx v t = j by omega, hB9]
          unfold wr
          rw [t4 j hj]
        · rw [if_neg (by omega), hB5]
          exact hR d (by omega) j hj
      · rw [ua_n (by decide), ua_s]
        rw [t1] at hdd
        by_cases hdt : d = tIdx v t
        · subst hdt
          rw [t2, pk_us]
        · have hne : ¬ tCode v d = t := fun z => by
            have := (tCode_lt h1 h2 (show d < tC v by omega)).2
            rw [z] at this
            omega
          rw [pk_un hne, hB6]
          exact hN d (by omega)
    · have t1 := tLtN h1 h2 (by omega) hnone
      have hB0 := hB 0 (by decide) (by decide)
      have hB5 := hB 5 (by decide) (by decide)
      have hB6 := hB 6 (by decide) (by decide)
      simp only [s99_0, s99_1, s99_2, s99_5, s99_6, s99_8, s99_9, s99_10, s99_13, s99_14, s99_17, s99_18, s99_19, s99_22, s99_25, s99_26, s99_28, s99_29, s99_32, s99_35, s99_36, s99_39, s99_41, s99_42, s99_45, s99_46, s99_47, s99_48, s99_49, s99_52, s99_53, s99_54, s99_55, s99_58, s99_61, s99_62, s99_65, s99_66, s99_67, s99_70, s99_71, s99_72, s99_73, s99_76, s99_77, s99_78, s99_81, s99_84, s99_88, s99_89, s99_90, s99_91, s99_94, s99_97, s99_98, s99_99, s99_100, s99_101, s99_104, s99_107, s99_108, s99_109, s99_110, s99_113, s99_116, s99_119, s99_122, s99_125, mis, mg1, mg2, mg3, mg4, mg5, mg6, mg7, mg8, mg9, mg10, mg11, mg12, mg13, mg14, mg15, mg16, mg17, mg18, mg19, mg20, mg21, mg22, ms1, ms2, ms3, ms4, ms5, ms6, ms7, ms8, ms9, ms10, ms11, ms12, ms13, ms14, ms15, ms16, ms17, ms18, ms19, ms20, ms21, ms22, mf0, mf1, mf2, mf3, mf4, mf5, mf6, mf7, mf8, mf9, mf10, mf11, mf12, mf13, mf14, mf15, mf16, mf17, mf18, mf19, mf20, mf21, mf22, mf23, mf24, mf25, mf26, mp4, mp7, mp22, mp25, mp26, mq_0, al_I, as_I, zl_Z, zs_0, zs_1, Nat.reduceAdd, Nat.reduceLeDiff, Nat.zero_le, cat_0, cat_i, cat_r, opt_n, opt_s, true_and, nI_add, pk_mul, ua_ua, ua_s, ua_n, not_false_eq_true, Nat.reduceEqDiff]
      rw [if_pos trivial]
      refine ih (t + 1) _ B (by omega) (fun k k0 k5 k6 k9 k10 => (hB k k9 k10).trans (hA k k0 k5 k6 k9 k10)) (fun j hj => by rw [hB0]; exact hA0 j hj) (by rw [hB0, t1]; exact hd) (fun d hdd j hj => by rw [hB5]; exact hR d (by omega) j hj) (fun d hdd => by rw [hB6]; exact hN d (by omega))
theorem r_layDiagrams (h1 : 1 ≤ v) (h2 : v ≤ 5) (hv : A 1 0 = nI v) (hX : ∀ B : Nat → Nat → Int32, (∀ k, ¬ k = 0 → ¬ k = 5 → ¬ k = 6 → ¬ k = 7 → ¬ k = 8 → ¬ k = 9 → ¬ k = 10 → ¬ k = 11 → B k = A k) → (∀ j, ¬ j = 1 → B 0 j = A 0 j) → mTab v B → X none (mdl M B g)) : ex_W 99 0 [.ref M, oU, oU] [] (mdl M A g) X := by
  simp only [s99_0, s99_1, s99_2, s99_5, s99_6, mis, mg1, mg2, mg3, mg4, mg5, mg6, mg7, mg8, mg9, mg10, mg11, mg12, mg13, mg14, mg15, mg16, mg17, mg18, mg19, mg20, mg21, mg22, ms1, ms2, ms3, ms4, ms5, ms6, ms7, ms8, ms9, ms10, ms11, ms12, ms13, ms14, ms15, ms16, ms17, ms18, ms19, ms20, ms21, ms22, mf0, mf1, mf2, mf3, mf4, mf5, mf6, mf7, mf8, mf9, mf10, mf11, mf12, mf13, mf14, mf15, mf16, mf17, mf18, mf19, mf20, mf21, mf22, mf23, mf24, mf25, mf26, mp4, mp7, mp22, mp25, mp26, mq_0, al_I, as_I, zl_Z, zs_0, zs_1, Nat.reduceAdd, Nat.reduceLeDiff, Nat.zero_le, cat_0, cat_i, cat_r, opt_n, opt_s, true_and, nI_add, pk_mul, ua_ua, ua_s, ua_n, not_false_eq_true, Nat.reduceEqDiff]
  have h0 := (tLt0 h1 h2).1
  refine l_ld7 (A0 := A) h1 h2 hv (fun B l1 l2 hB hB0 hd hR hN => ?_) (2 ^ (2 * v)) 0 _ _ (by omega) (fun k k0 k5 k6 k9 k10 => ua_n k0) (fun j hj => by rw [ua_s, pk_un hj]) (by rw [ua_s, pk_us, h0]) (fun d hd => by omega) (fun d hd => by omega)
  rw [s99_87, s99_88]
  refine l_ld89 (A0 := B) h1 h2 (by rw [hB 1 (by decide) (by decide) (by decide) (by decide) (by decide)]; exact hv) hd hR hN (fun D hD hP => ?_) (tC v) 0 _ B (by omega) (fun _ _ _ _ _ => rfl) (fun a' ha' => by omega)
  have hD0 := hD 0 (by decide) (by decide) (by decide) (by decide)
  have hD5 := hD 5 (by decide) (by decide) (by decide) (by decide)
  have hD6 := hD 6 (by decide) (by decide) (by decide) (by decide)
  exact hX D (fun k k0 k5 k6 k7 k8 k9 k10 k11 => (hD k k7 k8 k9 k11).trans (hB k k0 k5 k6 k9 k10)) (fun j hj => by rw [hD0]; exact hB0 j hj) ⟨by rw [hD0]; exact hd, by rw [hD5]; exact hR, by rw [hD6]; exact hN, hP⟩
end M3
