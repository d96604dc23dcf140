/-! THE REFERENCE: clearSums, strands, say, wipe, faults, diagram, hook, word -/
section M4
variable {M : Nat} {A : Nat → Nat → Int32} {g h : ex_Hp} {X : Option Value → ex_Hp → Prop} {v a b : Nat} {f0 : Nat → Int32}
theorem pk_ixe {x : Int32} {a b : Nat} (hb : b < 2147483648) (h : nI a ≤ x ∧ x ≤ nI b) (ha : a < 2147483648) : ∃ k, a ≤ k ∧ k ≤ b ∧ x = nI k := by
  have h1 := Int32.le_iff_toInt_le.mp h.1
  have h2 := Int32.le_iff_toInt_le.mp h.2
  rw [nI_toInt (by simpa using ha)] at h1
  rw [nI_toInt (by simpa using hb)] at h2
  refine ⟨x.toInt.toNat, by omega, by omega, ?_⟩
  apply Int32.toInt_inj.mp
  rw [nI_toInt (by have e : (2:Nat)^31 = 2147483648 := rfl; omega)]
  omega
def clrF (f : Nat → Int32) (n : Nat) : Nat → Int32 := fun j => if 3 ≤ j ∧ j < 3 + n then nI 0 else f j
theorem l_clear : ∀ (n t : Nat), n + t = 210 → X none (mdl M (ua A 1 (clrF (A 1) 210)) g) → ex_W 106 2 [.ref M, .int (nI t)] [] (mdl M (ua A 1 (clrF (A 1) t)) g) X := by
  intro n
  induction n with
  | zero =>
    intro t hn hX
    obtain rfl : t = 210 := by omega
    rw [s106_2]
    simp only [s106_0, s106_1, s106_3, s106_6, s106_9, s106_10, s106_13, s106_14, s106_15, s106_16, s106_17, s106_18, s106_21, s106_24, mis, mg1, mg2, mg3, mg4, mg5, mg6, mg7, mg8, mg9, mg10, mg11, mg12, mg13, mg14, mg15, mg16, mg17, mg18, mg19, mg20, mg21, mg22, ms1, ms2, ms3, ms4, ms5, ms6, ms7, ms8, ms9, ms10, ms11, ms12, ms13, ms14, ms15, ms16, ms17, ms18, ms19, ms20, ms21, ms22, mf0, mf1, mf2, mf3, mf4, mf5, mf6, mf7, mf8, mf9, mf10, mf11, mf12, mf13, mf14, mf15, mf16, mf17, mf18, mf19, mf20, mf21, mf22, mf23, mf24, mf25, mf26, mp4, mp7, mp22, mp25, mp26, mq_0, al_I, as_I, zl_Z, zs_0, zs_1, Nat.reduceAdd, Nat.reduceLeDiff, Nat.zero_le, cat_0, cat_i, cat_r, opt_n, opt_s, true_and, nI_add, pk_mul, ua_ua, ua_s, ua_n, not_false_eq_true, Nat.reduceEqDiff]
    rw [if_pos (by decide)]
    exact hX
  | succ n ih =>
    intro t hn hX
    rw [s106_2]
    simp only [s106_0, s106_1, s106_3, s106_6, s106_9, s106_10, s106_13, s106_14, s106_15, s106_16, s106_17, s106_18, s106_21, s106_24, mis, mg1, mg2, mg3, mg4, mg5, mg6, mg7, mg8, mg9, mg10, mg11, mg12, mg13, mg14, mg15, mg16, mg17, mg18, mg19, mg20, mg21, mg22, ms1, ms2, ms3, ms4, ms5, ms6, ms7, ms8, ms9, ms10, ms11, ms12, ms13, ms14, ms15, ms16, ms17, ms18, ms19, ms20, ms21, ms22, mf0, mf1, mf2, mf3, mf4, mf5, mf6, mf7, mf8, mf9, mf10, mf11, mf12, mf13, mf14, mf15, mf16, mf17, mf18, mf19, mf20, mf21, mf22, mf23, mf24, mf25, mf26, mp4, mp7, mp22, mp25, mp26, mq_0, al_I, as_I, zl_Z, zs_0, zs_1, Nat.reduceAdd, Nat.reduceLeDiff, Nat.zero_le, cat_0, cat_i, cat_r, opt_n, opt_s, true_and, nI_add, pk_mul, ua_ua, ua_s, ua_n, not_false_eq_true, Nat.reduceEqDiff, xi_n (show 3 + t < 213 by omega) (show 213 < 2147483648 by decide)]
    rw [if_neg (fun z => absurd ((nI_l1 (by omega) (by omega)).mp z) (by omega))]
    have := ih (t + 1) (by omega) hX
    have e : clrF (A 1) (t + 1) = upd (clrF (A 1) t) (3 + t) (nI 0) := by
      funext j
      by_cases hj : j = 3 + t
      · subst hj
        rw [pk_us]
        unfold clrF
        rw [if_pos (by omega)]
      · rw [pk_un hj]
        unfold clrF
        by_cases hj2 : 3 ≤ j ∧ j < 3 + t
        · rw [if_pos hj2, if_pos (by omega)]
        · rw [if_neg hj2, if_neg (by omega)]
    rw [e] at this
    exact this
theorem r_clearSums (hX : X none (mdl M (ua A 1 (clrF (A 1) 210)) g)) : ex_W 106 0 [.ref M, oU] [] (mdl M A g) X := by
  rw [s106_0, s106_1]
  have := l_clear (M := M) (A := A) (g := g) (X := X) 210 0 (by decide) hX
  have e : clrF (A 1) 0 = A 1 := by
    funext j
    unfold clrF
    rw [if_neg (by omega)]
  rw [e, ua_id] at this
  exact this
/-- strands -/
theorem r_strands_no {x : Int32} (hx : ¬ (nI 1 ≤ x ∧ x ≤ nI 5)) (hX : X (some (.int (-2))) (mdl M A g)) : ex_W 107 0 [.ref M, .int x] [] (mdl M A g) X := by
  simp only [s107_0, s107_1, s107_2, s107_3, s107_6, s107_9, s107_11, s107_12, s107_13, s107_16, s107_17, s107_18, s107_19, s107_20, s107_23, s107_24, s107_27, s107_28, s107_31, mis, mg1, mg2, mg3, mg4, mg5, mg6, mg7, mg8, mg9, mg10, mg11, mg12, mg13, mg14, mg15, mg16, mg17, mg18, mg19, mg20, mg21, mg22, ms1, ms2, ms3, ms4, ms5, ms6, ms7, ms8, ms9, ms10, ms11, ms12, ms13, ms14, ms15, ms16, ms17, ms18, ms19, ms20, ms21, ms22, mf0, mf1, mf2, mf3, mf4, mf5, mf6, mf7, mf8, mf9, mf10, mf11, mf12, mf13, mf14, mf15, mf16, mf17, mf18, mf19, mf20, mf21, mf22, mf23, mf24, mf25, mf26, mp4, mp7, mp22, mp25, mp26, mq_0, al_I, as_I, zl_Z, zs_0, zs_1, Nat.reduceAdd, Nat.reduceLeDiff, Nat.zero_le, cat_0, cat_i, cat_r, opt_n, opt_s, true_and, nI_add, pk_mul, ua_ua, ua_s, ua_n, not_false_eq_true, Nat.reduceEqDiff, r_in, if_neg hx, if_pos, if_neg]
  rw [if_neg (fun z => z trivial)]
  exact hX
theorem r_strands {k : Nat} (h1 : 1 ≤ k) (h2 : k ≤ 5) (hX : ∀ B : Nat → Nat → Int32, (∀ j, ¬ j = 0 → ¬ j = 1 → ¬ j = 5 → ¬ j = 6 → ¬ j = 7 → ¬ j = 8 → ¬ j = 9 → ¬ j = 10 → ¬ j = 11 → B j = A j) → (∀ j, ¬ j = 1 → B 0 j = A 0 j) → B 1 = clrF (upd (A 1) 0 (nI k)) 210 → mTab k B → X (some (.int (nI (tC k)))) (mdl M B g)) : ex_W 107 0 [.ref M, .int (nI k)] [] (mdl M A g) X := by
  have hx : nI 1 ≤ nI k ∧ nI k ≤ nI 5 := ⟨(nI_l1 (by omega) (by omega)).mpr h1, (nI_l1 (by omega) (by omega)).mpr h2⟩
  simp only [s107_0, s107_1, s107_2, s107_3, s107_6, s107_9, s107_11, s107_12, s107_13, s107_16, s107_17, s107_18, s107_19, s107_20, s107_23, s107_24, s107_27, s107_28, s107_31, mis, mg1, mg2, mg3, mg4, mg5, mg6, mg7, mg8, mg9, mg10, mg11, mg12, mg13, mg14, mg15, mg16, mg17, mg18, mg19, mg20, mg21, mg22, ms1, ms2, ms3, ms4, ms5, ms6, ms7, ms8, ms9, ms10, ms11, ms12, ms13, ms14, ms15, ms16, ms17, ms18, ms19, ms20, ms21, ms22, mf0, mf1, mf2, mf3, mf4, mf5, mf6, mf7, mf8, mf9, mf10, mf11, mf12, mf13, mf14, mf15, mf16, mf17, mf18, mf19, mf20, mf21, mf22, mf23, mf24, mf25, mf26, mp4, mp7, mp22, mp25, mp26, mq_0, al_I, as_I, zl_Z, zs_0, zs_1, Nat.reduceAdd, Nat.reduceLeDiff, Nat.zero_le, cat_0, cat_i, cat_r, opt_n, opt_s, true_and, nI_add, pk_mul, ua_ua, ua_s, ua_n, not_false_eq_true, Nat.reduceEqDiff, r_in, if_pos hx, xi_n (show 0 < 213 by decide) (show 213 < 2147483648 by decide)]
  rw [if_pos (by decide)]
  refine r_clearSums ?_
  simp only [s107_0, s107_1, s107_2, s107_3, s107_6, s107_9, s107_11, s107_12, s107_13, s107_16, s107_17, s107_18, s107_19, s107_20, s107_23, s107_24, s107_27, s107_28, s107_31, mis, mg1, mg2, mg3, mg4, mg5, mg6, mg7, mg8, mg9, mg10, mg11, mg12, mg13, mg14, mg15, mg16, mg17, mg18, mg19, mg20, mg21, mg22, ms1, ms2, ms3, ms4, ms5, ms6, ms7, ms8, ms9, ms10, ms11, ms12, ms13, ms14, ms15, ms16, ms17, ms18, ms19, ms20, ms21, ms22, mf0, mf1, mf2, mf3, mf4, mf5, mf6, mf7, mf8, mf9, mf10, mf11, mf12, mf13, mf14, mf15, mf16, mf17, mf18, mf19, mf20, mf21, mf22, mf23, mf24, mf25, mf26, mp4, mp7, mp22, mp25, mp26, mq_0, al_I, as_I, zl_Z, zs_0, zs_1, Nat.reduceAdd, Nat.reduceLeDiff, Nat.zero_le, cat_0, cat_i, cat_r, opt_n, opt_s, true_and, nI_add, pk_mul, ua_ua, ua_s, ua_n, not_false_eq_true, Nat.reduceEqDiff]
  refine r_layDiagrams h1 h2 (by rw [ua_s]; rfl) (fun B hB hB0 hT => ?_)
  simp only [s107_0, s107_1, s107_2, s107_3, s107_6, s107_9, s107_11, s107_12, s107_13, s107_16, s107_17, s107_18, s107_19, s107_20, s107_23, s107_24, s107_27, s107_28, s107_31, mis, mg1, mg2, mg3, mg4, mg5, mg6, mg7, mg8, mg9, mg10, mg11, mg12, mg13, mg14, mg15, mg16, mg17, mg18, mg19, mg20, mg21, mg22, ms1, ms2, ms3, ms4, ms5, ms6, ms7, ms8, ms9, ms10, ms11, ms12, ms13, ms14, ms15, ms16, ms17, ms18, ms19, ms20, ms21, ms22, mf0, mf1, mf2, mf3, mf4, mf5, mf6, mf7, mf8, mf9, mf10, mf11, mf12, mf13, mf14, mf15, mf16, mf17, mf18, mf19, mf20, mf21, mf22, mf23, mf24, mf25, mf26, mp4, mp7, mp22, mp25, mp26, mq_0, al_I, as_I, zl_Z, zs_0, zs_1, Nat.reduceAdd, Nat.reduceLeDiff, Nat.zero_le, cat_0, cat_i, cat_r, opt_n, opt_s, true_and, nI_add, pk_mul, ua_ua, ua_s, ua_n, not_false_eq_true, Nat.reduceEqDiff, hT.1]
  refine hX B (fun j j0 j1 j5 j6 j7 j8 j9 j10 j11 => ?_) (fun j hj => ?_) ?_ hT
  · rw [hB j j0 j5 j6 j7 j8 j9 j10 j11, ua_n j1]
  · rw [hB0 j hj, ua_n (by decide)]
  · rw [hB 1 (by decide) (by decide) (by decide) (by decide) (by decide) (by decide) (by decide) (by decide), ua_s]
theorem r_say {x : Int32} {n : Nat} (hn : A 0 0 = nI n) (hn2 : n ≤ 24) : ex_W 108 0 [.ref M, .int x] [] (mdl M A g) X ↔ if nI 33 ≤ x ∧ x ≤ nI 126 then (if n = 24 then X (some (.int (-4))) (mdl M A g) else X (some (.int (nI (n + 1)))) (mdl M (ua (ua A 4 (upd (A 4) n x)) 0 (upd (A 0) 0 (nI (n + 1)))) g)) else X (some (.int (-2))) (mdl M A g) := by
  by_cases hx : nI 33 ≤ x ∧ x ≤ nI 126
  · rw [if_pos hx]
    by_cases h24 : n = 24
    · subst h24
      simp only [s108_0, s108_1, s108_3, s108_5, s108_8, s108_11, s108_13, s108_14, s108_15, s108_18, s108_20, s108_23, s108_25, s108_26, s108_27, s108_30, s108_31, s108_34, s108_35, s108_36, s108_37, s108_38, s108_41, s108_42, s108_43, s108_46, s108_47, s108_50, mis, mg1, mg2, mg3, mg4, mg5, mg6, mg7, mg8, mg9, mg10, mg11, mg12, mg13, mg14, mg15, mg16, mg17, mg18, mg19, mg20, mg21, mg22, ms1, ms2, ms3, ms4, ms5, ms6, ms7, ms8, ms9, ms10, ms11, ms12, ms13, ms14, ms15, ms16, ms17, ms18, ms19, ms20, ms21, ms22, mf0, mf1, mf2, mf3, mf4, mf5, mf6, mf7, mf8, mf9, mf10, mf11, mf12, mf13, mf14, mf15, mf16, mf17, mf18, mf19, mf20, mf21, mf22, mf23, mf24, mf25, mf26, mp4, mp7, mp22, mp25, mp26, mq_0, al_I, as_I, zl_Z, zs_0, zs_1, Nat.reduceAdd, Nat.reduceLeDiff, Nat.zero_le, cat_0, cat_i, cat_r, opt_n, opt_s, true_and, nI_add, pk_mul, ua_ua, ua_s, ua_n, not_false_eq_true, Nat.reduceEqDiff, r_in, if_pos hx, hn]
      rw [if_pos (by decide), if_neg (fun z => z trivial), if_pos trivial]
    · simp only [s108_0, s108_1, s108_3, s108_5, s108_8, s108_11, s108_13, s108_14, s108_15, s108_18, s108_20, s108_23, s108_25, s108_26, s108_27, s108_30, s108_31, s108_34, s108_35, s108_36, s108_37, s108_38, s108_41, s108_42, s108_43, s108_46, s108_47, s108_50, mis, mg1, mg2, mg3, mg4, mg5, mg6, mg7, mg8, mg9, mg10, mg11, mg12, mg13, mg14, mg15, mg16, mg17, mg18, mg19, mg20, mg21, mg22, ms1, ms2, ms3, ms4, ms5, ms6, ms7, ms8, ms9, ms10, ms11, ms12, ms13, ms14, ms15, ms16, ms17, ms18, ms19, ms20, ms21, ms22, mf0, mf1, mf2, mf3, mf4, mf5, mf6, mf7, mf8, mf9, mf10, mf11, mf12, mf13, mf14, mf15, mf16, mf17, mf18, mf19, mf20, mf21, mf22, mf23, mf24, mf25, mf26, mp4, mp7, mp22, mp25, mp26, mq_0, al_I, as_I, zl_Z, zs_0, zs_1, Nat.reduceAdd, Nat.reduceLeDiff, Nat.zero_le, cat_0, cat_i, cat_r, opt_n, opt_s, true_and, nI_add, pk_mul, ua_ua, ua_s, ua_n, not_false_eq_true, Nat.reduceEqDiff, r_in, if_pos hx, hn, xi_n (show n < 24 by omega) (show 24 < 2147483648 by decide), pk_us]
      rw [if_pos (by decide), if_pos (fun z => h24 ((nI_e (by omega) (by omega)).mp z)), if_neg h24]
  · simp only [s108_0, s108_1, s108_3, s108_5, s108_8, s108_11, s108_13, s108_14, s108_15, s108_18, s108_20, s108_23, s108_25, s108_26, s108_27, s108_30, s108_31, s108_34, s108_35, s108_36, s108_37, s108_38, s108_41, s108_42, s108_43, s108_46, s108_47, s108_50, mis, mg1, mg2, mg3, mg4, mg5, mg6, mg7, mg8, mg9, mg10, mg11, mg12, mg13, mg14, mg15, mg16, mg17, mg18, mg19, mg20, mg21, mg22, ms1, ms2, ms3, ms4, ms5, ms6, ms7, ms8, ms9, ms10, ms11, ms12, ms13, ms14, ms15, ms16, ms17, ms18, ms19, ms20, ms21, ms22, mf0, mf1, mf2, mf3, mf4, mf5, mf6, mf7, mf8, mf9, mf10, mf11, mf12, mf13, mf14, mf15, mf16, mf17, mf18, mf19, mf20, mf21, mf22, mf23, mf24, mf25, mf26, mp4, mp7, mp22, mp25, mp26, mq_0, al_I, as_I, zl_Z, zs_0, zs_1, Nat.reduceAdd, Nat.reduceLeDiff, Nat.zero_le, cat_0, cat_i, cat_r, opt_n, opt_s, true_and, nI_add, pk_mul, ua_ua, ua_s, ua_n, not_false_eq_true, Nat.reduceEqDiff, r_in, if_neg hx]
    rw [if_neg (fun z => z trivial)]
theorem r_wipe : ex_W 109 0 [.ref M, oU] [] (mdl M A g) X ↔ X (some (.int (A 0 0))) (mdl M (ua A 0 (upd (A 0) 0 (nI 0))) g) := by
  simp only [s109_0, s109_1, s109_4, s109_5, s109_6, s109_7, s109_10, s109_11, mis, mg1, mg2, mg3, mg4, mg5, mg6, mg7, mg8, mg9, mg10, mg11, mg12, mg13, mg14, mg15, mg16, mg17, mg18, mg19, mg20, mg21, mg22, ms1, ms2, ms3, ms4, ms5, ms6, ms7, ms8, ms9, ms10, ms11, ms12, ms13, ms14, ms15, ms16, ms17, ms18, ms19, ms20, ms21, ms22, mf0, mf1, mf2, mf3, mf4, mf5, mf6, mf7, mf8, mf9, mf10, mf11, mf12, mf13, mf14, mf15, mf16, mf17, mf18, mf19, mf20, mf21, mf22, mf23, mf24, mf25, mf26, mp4, mp7, mp22, mp25, mp26, mq_0, al_I, as_I, zl_Z, zs_0, zs_1, Nat.reduceAdd, Nat.reduceLeDiff, Nat.zero_le, cat_0, cat_i, cat_r, opt_n, opt_s, true_and, nI_add, pk_mul, ua_ua, ua_s, ua_n, not_false_eq_true, Nat.reduceEqDiff]
/-- where a text on the pad can't go on as a diagram's -/
def dft (f : Nat → Int32) (v : Nat) : Nat → Nat → Nat → Nat → Int32
  | 0, i, _, _ => if i = 2 * v then -6 else nI i
  | n + 1, i, b, e => if f i = nI 40 ∧ b < v then dft f v n (i + 1) (b + 1) e else if f i = nI 41 ∧ e < b then dft f v n (i + 1) b (e + 1) else nI i
theorem l_df {pf : Nat → Int32} {N : Nat} (h1 : 1 ≤ v) (h2 : v ≤ 5) (hv : A 1 0 = nI v) (hn : A 0 0 = nI N) (hN : N ≤ 24) (hf : A 4 = pf) : ∀ (n i b e : Nat) (l4 : Value), n + i = N → e ≤ b → b ≤ v → i = b + e → X (some (.int (dft pf v n i b e))) (mdl M A g) → ex_W 110 6 [.ref M, .int (nI b), .int (nI (b - e)), .int (nI i), l4] [] (mdl M A g) X := by
  subst hf
  intro n
  induction n with
  | zero =>
    intro i b e l4 hni heb hbv hi hX
    obtain rfl : i = N := by omega
    rw [s110_6]
    simp only [s110_0, s110_1, s110_2, s110_3, s110_4, s110_5, s110_7, s110_8, s110_11, s110_14, s110_15, s110_18, s110_19, s110_20, s110_22, s110_25, s110_26, s110_27, s110_30, s110_31, s110_32, s110_35, s110_36, s110_39, s110_40, s110_41, s110_43, s110_46, s110_47, s110_50, s110_51, s110_54, s110_55, s110_57, s110_59, s110_62, s110_63, s110_64, s110_65, s110_66, s110_69, s110_70, s110_71, s110_73, s110_76, s110_77, s110_80, s110_81, s110_82, s110_83, s110_84, s110_85, s110_88, s110_89, s110_90, s110_92, s110_95, s110_96, s110_99, s110_100, s110_101, s110_102, s110_105, s110_108, s110_109, s110_112, s110_113, s110_116, s110_119, s110_121, s110_124, s110_125, s110_128, mis, mg1, mg2, mg3, mg4, mg5, mg6, mg7, mg8, mg9, mg10, mg11, mg12, mg13, mg14, mg15, mg16, mg17, mg18, mg19, mg20, mg21, mg22, ms1, ms2, ms3, ms4, ms5, ms6, ms7, ms8, ms9, ms10, ms11, ms12, ms13, ms14, ms15, ms16, ms17, ms18, ms19, ms20, ms21, ms22, mf0, mf1, mf2, mf3, mf4, mf5, mf6, mf7, mf8, mf9, mf10, mf11, mf12, mf13, mf14, mf15, mf16, mf17, mf18, mf19, mf20, mf21, mf22, mf23, mf24, mf25, mf26, mp4, mp7, mp22, mp25, mp26, mq_0, al_I, as_I, zl_Z, zs_0, zs_1, Nat.reduceAdd, Nat.reduceLeDiff, Nat.zero_le, cat_0, cat_i, cat_r, opt_n, opt_s, true_and, nI_add, pk_mul, ua_ua, ua_s, ua_n, not_false_eq_true, Nat.reduceEqDiff, hn, hv, r_points]
    rw [if_pos ((nI_l1 (by omega) (by omega)).mpr (by omega))]
    rw [dft] at hX
    by_cases hiv : i = 2 * v
    · rw [if_pos hiv] at hX
      rw [if_neg (fun z => z ((nI_e (by omega) (by omega)).mpr hiv))]
      exact hX
    · rw [if_neg hiv] at hX
      rw [if_pos (fun z => hiv ((nI_e (by omega) (by omega)).mp z))]
      exact hX
  | succ n ih =>
    intro i b e l4 hni heb hbv hi hX
    rw [dft] at hX
    rw [s110_6]
    simp only [s110_0, s110_1, s110_2, s110_3, s110_4, s110_5, s110_7, s110_8, s110_11, s110_14, s110_15, s110_18, s110_19, s110_20, s110_22, s110_25, s110_26, s110_27, s110_30, s110_31, s110_32, s110_35, s110_36, s110_39, s110_40, s110_41, s110_43, s110_46, s110_47, s110_50, s110_51, s110_54, s110_55, s110_57, s110_59, s110_62, s110_63, s110_64, s110_65, s110_66, s110_69, s110_70, s110_71, s110_73, s110_76, s110_77, s110_80, s110_81, s110_82, s110_83, s110_84, s110_85, s110_88, s110_89, s110_90, s110_92, s110_95, s110_96, s110_99, s110_100, s110_101, s110_102, s110_105, s110_108, s110_109, s110_112, s110_113, s110_116, s110_119, s110_121, s110_124, s110_125, s110_128, mis, mg1, mg2, mg3, mg4, mg5, mg6, mg7, mg8, mg9, mg10, mg11, mg12, mg13, mg14, mg15, mg16, mg17, mg18, mg19, mg20, mg21, mg22, ms1, ms2, ms3, ms4, ms5, ms6, ms7, ms8, ms9, ms10, ms11, ms12, ms13, ms14, ms15, ms16, ms17, ms18, ms19, ms20, ms21, ms22, mf0, mf1, mf2, mf3, mf4, mf5, mf6, mf7, mf8, mf9, mf10, mf11, mf12, mf13, mf14, mf15, mf16, mf17, mf18, mf19, mf20, mf21, mf22, mf23, mf24, mf25, mf26, mp4, mp7, mp22, mp25, mp26, mq_0, al_I, as_I, zl_Z, zs_0, zs_1, Nat.reduceAdd, Nat.reduceLeDiff, Nat.zero_le, cat_0, cat_i, cat_r, opt_n, opt_s, true_and, nI_add, pk_mul, ua_ua, ua_s, ua_n, not_false_eq_true, Nat.reduceEqDiff, hn, hv, r_points, xi_n (show i < 24 by omega) (show 24 < 2147483648 by decide), xi_n (show 0 < 213 by decide) (show 213 < 2147483648 by decide)]
    rw [if_neg (fun z => absurd ((nI_l1 (by omega) (by omega)).mp z) (by omega))]
    by_cases hc1 : A 4 i = nI 40
    · have hc41 : ¬ A 4 i = nI 41 := fun z => by rw [hc1] at z; exact absurd z (by decide)
      rw [if_neg (fun z => z hc1)]
      by_cases hbv2 : b < v
      · rw [if_pos ⟨hc1, hbv2⟩] at hX
        rw [if_pos ((nI_l2 (by omega) (by omega)).mpr hbv2), if_pos (by decide), if_neg (fun z => z hc1), if_neg (fun z => z hc1)]
        have := ih (i + 1) (b + 1) e (.int (nI 1)) (by omega) (by omega) (by omega) (by omega) hX
        rw [show b + 1 - e = b - e + 1 by omega] at this
        exact this
      · rw [if_neg (fun z => hbv2 z.2), if_neg (fun z => hc41 z.1)] at hX
        rw [if_neg (fun z => hbv2 ((nI_l2 (by omega) (by omega)).mp z)), if_pos hc41, if_neg (by decide)]
        exact hX
    · rw [if_neg (fun z => hc1 z.1)] at hX
      rw [if_pos hc1]
      by_cases hc2 : A 4 i = nI 41
      · rw [if_neg (fun z => z hc2)]
        by_cases hbe : e < b
        · rw [if_pos ⟨hc2, hbe⟩] at hX
          rw [if_neg (fun z => absurd ((nI_l1 (by omega) (by omega)).mp z) (by omega)), if_pos (by decide), if_pos hc1, if_pos hc1]
          have := ih (i + 1) b (e + 1) (.int (nI 1)) (by omega) (by omega) (by omega) (by omega) hX
          have e1 : nI (b - e) + -1 = nI (b - (e + 1)) := by
            rw [show b - e = (b - (e + 1)) + 1 by omega]
            exact pk_m1 _
          rw [e1]
          exact this
        · rw [if_neg (fun z => hbe z.2)] at hX
          rw [if_pos ((nI_l1 (by omega) (by omega)).mpr (by omega)), if_neg (by decide)]
          exact hX
      · rw [if_neg (fun z => hc2 z.1)] at hX
        rw [if_pos hc2, if_neg (by decide)]
        exact hX
theorem r_df {N : Nat} (h1 : 1 ≤ v) (h2 : v ≤ 5) (hv : A 1 0 = nI v) (hn : A 0 0 = nI N) (hN : N ≤ 24) (hX : X (some (.int (dft (A 4) v N 0 0 0))) (mdl M A g)) : ex_W 110 0 [.ref M, oU, oU, oU, oU] [] (mdl M A g) X := by
  rw [s110_0, s110_1, s110_2, s110_3, s110_4, s110_5]
  exact l_df h1 h2 hv hn hN rfl N 0 0 0 _ (by omega) (by omega) (by omega) (by omega) hX
/-- where it can't go on as a word's -/
def wft (f : Nat → Int32) (v : Nat) : Nat → Nat → Int32
  | 0, _ => -6
  | n + 1, i => if nI 1 ≤ f i - nI 48 ∧ f i - nI 48 ≤ nI (v - 1) then wft f v n (i + 1) else nI i
theorem r_isHook {x : Int32} (h1 : 1 ≤ v) (hv : A 1 0 = nI v) : ex_W 111 0 [.ref M, .int x] [] (mdl M A g) X ↔ X (some (.int (if nI 1 ≤ x ∧ x ≤ nI (v - 1) then nI 1 else nI 0))) (mdl M A g) := by
  simp only [s111_0, s111_1, s111_2, s111_3, s111_6, s111_7, s111_8, s111_9, s111_10, s111_13, mis, mg1, mg2, mg3, mg4, mg5, mg6, mg7, mg8, mg9, mg10, mg11, mg12, mg13, mg14, mg15, mg16, mg17, mg18, mg19, mg20, mg21, mg22, ms1, ms2, ms3, ms4, ms5, ms6, ms7, ms8, ms9, ms10, ms11, ms12, ms13, ms14, ms15, ms16, ms17, ms18, ms19, ms20, ms21, ms22, mf0, mf1, mf2, mf3, mf4, mf5, mf6, mf7, mf8, mf9, mf10, mf11, mf12, mf13, mf14, mf15, mf16, mf17, mf18, mf19, mf20, mf21, mf22, mf23, mf24, mf25, mf26, mp4, mp7, mp22, mp25, mp26, mq_0, al_I, as_I, zl_Z, zs_0, zs_1, Nat.reduceAdd, Nat.reduceLeDiff, Nat.zero_le, cat_0, cat_i, cat_r, opt_n, opt_s, true_and, nI_add, pk_mul, ua_ua, ua_s, ua_n, not_false_eq_true, Nat.reduceEqDiff, r_in, hv, xi_n (show 0 < 213 by decide) (show 213 < 2147483648 by decide), pk_sub h1]
  constructor
  · exact fun z => z.2
  · refine fun z => ⟨?_, z⟩
    split
    · exact Or.inr rfl
    · exact Or.inl rfl
theorem l_wf {N : Nat} (h1 : 1 ≤ v) (h2 : v ≤ 5) (hv : A 1 0 = nI v) (hn : A 0 0 = nI N) (hN : N ≤ 24) : ∀ (n i : Nat), n + i = N → X (some (.int (wft (A 4) v n i))) (mdl M A g) → ex_W 112 2 [.ref M, .int (nI i)] [] (mdl M A g) X := by
  intro n
  induction n with
  | zero =>
    intro i hni hX
    obtain rfl : i = N := by omega
    rw [s112_2]
    simp only [s112_0, s112_1, s112_3, s112_4, s112_7, s112_10, s112_11, s112_12, s112_15, s112_16, s112_17, s112_19, s112_20, s112_23, s112_26, s112_27, s112_28, s112_31, s112_34, s112_36, mis, mg1, mg2, mg3, mg4, mg5, mg6, mg7, mg8, mg9, mg10, mg11, mg12, mg13, mg14, mg15, mg16, mg17, mg18, mg19, mg20, mg21, mg22, ms1, ms2, ms3, ms4, ms5, ms6, ms7, ms8, ms9, ms10, ms11, ms12, ms13, ms14, ms15, ms16, ms17, ms18, ms19, ms20, ms21, ms22, mf0, mf1, mf2, mf3, mf4, mf5, mf6, mf7, mf8, mf9, mf10, mf11, mf12, mf13, mf14, mf15, mf16, mf17, mf18, mf19, mf20, mf21, mf22, mf23, mf24, mf25, mf26, mp4, mp7, mp22, mp25, mp26, mq_0, al_I, as_I, zl_Z, zs_0, zs_1, Nat.reduceAdd, Nat.reduceLeDiff, Nat.zero_le, cat_0, cat_i, cat_r, opt_n, opt_s, true_and, nI_add, pk_mul, ua_ua, ua_s, ua_n, not_false_eq_true, Nat.reduceEqDiff, hn]
    rw [if_pos ((nI_l1 (by omega) (by omega)).mpr (by omega))]
    exact hX
  | succ n ih =>
    intro i hni hX
    rw [wft] at hX
    rw [s112_2]
    simp only [s112_0, s112_1, s112_3, s112_4, s112_7, s112_10, s112_11, s112_12, s112_15, s112_16, s112_17, s112_19, s112_20, s112_23, s112_26, s112_27, s112_28, s112_31, s112_34, s112_36, mis, mg1, mg2, mg3, mg4, mg5, mg6, mg7, mg8, mg9, mg10, mg11, mg12, mg13, mg14, mg15, mg16, mg17, mg18, mg19, mg20, mg21, mg22, ms1, ms2, ms3, ms4, ms5, ms6, ms7, ms8, ms9, ms10, ms11, ms12, ms13, ms14, ms15, ms16, ms17, ms18, ms19, ms20, ms21, ms22, mf0, mf1, mf2, mf3, mf4, mf5, mf6, mf7, mf8, mf9, mf10, mf11, mf12, mf13, mf14, mf15, mf16, mf17, mf18, mf19, mf20, mf21, mf22, mf23, mf24, mf25, mf26, mp4, mp7, mp22, mp25, mp26, mq_0, al_I, as_I, zl_Z, zs_0, zs_1, Nat.reduceAdd, Nat.reduceLeDiff, Nat.zero_le, cat_0, cat_i, cat_r, opt_n, opt_s, true_and, nI_add, pk_mul, ua_ua, ua_s, ua_n, not_false_eq_true, Nat.reduceEqDiff, hn, xi_n (show i < 24 by omega) (show 24 < 2147483648 by decide), r_isHook h1 hv]
    rw [if_neg (fun z => absurd ((nI_l1 (by omega) (by omega)).mp z) (by omega))]
    by_cases hc : nI 1 ≤ A 4 i - nI 48 ∧ A 4 i - nI 48 ≤ nI (v - 1)
    · rw [if_pos hc] at hX ⊢
      rw [if_pos (by decide)]
      exact ih (i + 1) (by omega) hX
    · rw [if_neg hc] at hX ⊢
      rw [if_neg (fun z => z rfl)]
      exact hX
theorem r_wf {N : Nat} (h1 : 1 ≤ v) (h2 : v ≤ 5) (hv : A 1 0 = nI v) (hn : A 0 0 = nI N) (hN : N ≤ 24) (hX : X (some (.int (wft (A 4) v N 0))) (mdl M A g)) : ex_W 112 0 [.ref M, oU] [] (mdl M A g) X := by
  rw [s112_0, s112_1]
  exact l_wf h1 h2 hv hn hN N 0 (by omega) hX
theorem r_fault {x : Int32} {N : Nat} (h1 : 1 ≤ v) (h2 : v ≤ 5) (hv : A 1 0 = nI v) (hn : A 0 0 = nI N) (hN : N ≤ 24) (hX : X (some (.int (if x = nI 0 then dft (A 4) v N 0 0 0 else if x = nI 1 then wft (A 4) v N 0 else -2))) (mdl M A g)) : ex_W 113 0 [.ref M, .int x] [] (mdl M A g) X := by
  simp only [s113_0, s113_1, s113_4, s113_5, s113_8, s113_11, s113_12, s113_13, s113_16, s113_17, s113_20, s113_23, s113_25, mis, mg1, mg2, mg3, mg4, mg5, mg6, mg7, mg8, mg9, mg10, mg11, mg12, mg13, mg14, mg15, mg16, mg17, mg18, mg19, mg20, mg21, mg22, ms1, ms2, ms3, ms4, ms5, ms6, ms7, ms8, ms9, ms10, ms11, ms12, ms13, ms14, ms15, ms16, ms17, ms18, ms19, ms20, ms21, ms22, mf0, mf1, mf2, mf3, mf4, mf5, mf6, mf7, mf8, mf9, mf10, mf11, mf12, mf13, mf14, mf15, mf16, mf17, mf18, mf19, mf20, mf21, mf22, mf23, mf24, mf25, mf26, mp4, mp7, mp22, mp25, mp26, mq_0, al_I, as_I, zl_Z, zs_0, zs_1, Nat.reduceAdd, Nat.reduceLeDiff, Nat.zero_le, cat_0, cat_i, cat_r, opt_n, opt_s, true_and, nI_add, pk_mul, ua_ua, ua_s, ua_n, not_false_eq_true, Nat.reduceEqDiff]
  by_cases h0 : x = nI 0
  · rw [if_pos h0] at hX
    rw [if_neg (fun z => z h0)]
    refine r_df h1 h2 hv hn hN ?_
    simp only [s113_0, s113_1, s113_4, s113_5, s113_8, s113_11, s113_12, s113_13, s113_16, s113_17, s113_20, s113_23, s113_25, mis, mg1, mg2, mg3, mg4, mg5, mg6, mg7, mg8, mg9, mg10, mg11, mg12, mg13, mg14, mg15, mg16, mg17, mg18, mg19, mg20, mg21, mg22, ms1, ms2, ms3, ms4, ms5, ms6, ms7, ms8, ms9, ms10, ms11, ms12, ms13, ms14, ms15, ms16, ms17, ms18, ms19, ms20, ms21, ms22, mf0, mf1, mf2, mf3, mf4, mf5, mf6, mf7, mf8, mf9, mf10, mf11, mf12, mf13, mf14, mf15, mf16, mf17, mf18, mf19, mf20, mf21, mf22, mf23, mf24, mf25, mf26, mp4, mp7, mp22, mp25, mp26, mq_0, al_I, as_I, zl_Z, zs_0, zs_1, Nat.reduceAdd, Nat.reduceLeDiff, Nat.zero_le, cat_0, cat_i, cat_r, opt_n, opt_s, true_and, nI_add, pk_mul, ua_ua, ua_s, ua_n, not_false_eq_true, Nat.reduceEqDiff]
    exact hX
  · rw [if_neg h0] at hX
    rw [if_pos h0]
    by_cases h3 : x = nI 1
    · rw [if_pos h3] at hX
      rw [if_neg (fun z => z h3)]
      refine r_wf h1 h2 hv hn hN ?_
      simp only [s113_0, s113_1, s113_4, s113_5, s113_8, s113_11, s113_12, s113_13, s113_16, s113_17, s113_20, s113_23, s113_25, mis, mg1, mg2, mg3, mg4, mg5, mg6, mg7, mg8, mg9, mg10, mg11, mg12, mg13, mg14, mg15, mg16, mg17, mg18, mg19, mg20, mg21, mg22, ms1, ms2, ms3, ms4, ms5, ms6, ms7, ms8, ms9, ms10, ms11, ms12, ms13, ms14, ms15, ms16, ms17, ms18, ms19, ms20, ms21, ms22, mf0, mf1, mf2, mf3, mf4, mf5, mf6, mf7, mf8, mf9, mf10, mf11, mf12, mf13, mf14, mf15, mf16, mf17, mf18, mf19, mf20, mf21, mf22, mf23, mf24, mf25, mf26, mp4, mp7, mp22, mp25, mp26, mq_0, al_I, as_I, zl_Z, zs_0, zs_1, Nat.reduceAdd, Nat.reduceLeDiff, Nat.zero_le, cat_0, cat_i, cat_r, opt_n, opt_s, true_and, nI_add, pk_mul, ua_ua, ua_s, ua_n, not_false_eq_true, Nat.reduceEqDiff]
      exact hX
    · rw [if_neg h3] at hX
      rw [if_pos h3]
      exact hX
end M4
