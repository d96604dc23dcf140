/-! THE REFERENCE: diagram, hook, word -/
theorem or_k : ∀ a, a < 1024 → ∀ m, m < 10 → nI a ||| nI (2 ^ m) = nI (a ||| 2 ^ m) := by
  have h : allN 1024 (fun a => allN 10 (fun m => decide (nI a ||| nI (2 ^ m) = nI (a ||| 2 ^ m)))) = true := by decide +kernel
  exact fun a ha m hm => of_decide_eq_true (allN_of (allN_of h ha) hm)
theorem or_2 : ∀ a, a < 10 → ∀ m, m < 10 → nI (2 ^ a) ||| nI (2 ^ m) = nI (2 ^ a ||| 2 ^ m) := by
  have h : allN 10 (fun a => allN 10 (fun m => decide (nI (2 ^ a) ||| nI (2 ^ m) = nI (2 ^ a ||| 2 ^ m)))) = true := by decide +kernel
  exact fun a ha m hm => of_decide_eq_true (allN_of (allN_of h ha) hm)
/-- the text that a pad spells -/
def cdo (f : Nat → Int32) : Nat → Nat → Nat → Nat
  | 0, _, acc => acc
  | n + 1, i, acc => cdo f n (i + 1) (2 * acc + (if f i = nI 40 then 0 else 1))
def cmpl (v : Nat) : Nat → Nat → Nat → Nat → Bool
  | 0, _, _, acc => decide (tCode v (tIdx v acc) = acc) && decide (tIdx v acc < tC v) && decide (acc < 1024)
  | n + 1, b, e, acc => (decide (v ≤ b) || cmpl v n (b + 1) e (2 * acc)) && (decide (b ≤ e) || cmpl v n b (e + 1) (2 * acc + 1))
theorem cmpl_k : all5 (fun v => cmpl v (2 * v) 0 0 0) = true := by decide +kernel
theorem nI_n6 {i : Nat} (h : i < 2147483648) : ¬ nI i = -6 := fun z => by
  have := congrArg Int32.toInt z
  rw [nI_toInt (by simpa using h), show (-6 : Int32).toInt = -6 by decide] at this
  omega
theorem nI_n0 {i : Nat} (h : i < 2147483648) : ¬ nI i < 0 := nI_pos (by simpa using h)
theorem dft_r {f : Nat → Int32} {v : Nat} : ∀ (n i b e : Nat), n + i ≤ 24 → dft f v n i b e = -6 ∨ ∃ k, k ≤ 24 ∧ dft f v n i b e = nI k := by
  intro n
  induction n with
  | zero =>
    intro i b e hn
    rw [dft]
    split
    · exact Or.inl rfl
    · exact Or.inr ⟨i, by omega, rfl⟩
  | succ n ih =>
    intro i b e hn
    rw [dft]
    split
    · exact ih _ _ _ (by omega)
    · split
      · exact ih _ _ _ (by omega)
      · exact Or.inr ⟨i, by omega, rfl⟩
theorem dft_ok {f : Nat → Int32} {v : Nat} : ∀ (n i b e : Nat), n + i ≤ 24 → e ≤ b → b ≤ v → dft f v n i b e = -6 → n + i = 2 * v ∧ ∀ acc, cmpl v n b e acc = true → (tCode v (tIdx v (cdo f n i acc)) = cdo f n i acc ∧ tIdx v (cdo f n i acc) < tC v ∧ cdo f n i acc < 1024) := by
  intro n
  induction n with
  | zero =>
    intro i b e hn heb hbv hd
    rw [dft] at hd
    by_cases hi : i = 2 * v
    · refine ⟨by omega, fun acc hc => ?_⟩
      simp only [cmpl, Bool.and_eq_true, decide_eq_true_eq] at hc
      exact ⟨hc.1.1, hc.1.2, hc.2⟩
    · rw [if_neg hi] at hd
      exact absurd hd (nI_n6 (by omega))
  | succ n ih =>
    intro i b e hn heb hbv hd
    rw [dft] at hd
    by_cases hc1 : f i = nI 40 ∧ b < v
    · rw [if_pos hc1] at hd
      obtain ⟨q1, q2⟩ := ih _ _ _ (by omega) (by omega) (by omega) hd
      refine ⟨by omega, fun acc hc => ?_⟩
      rw [cmpl, Bool.and_eq_true, Bool.or_eq_true, decide_eq_true_eq] at hc
      rw [cdo, if_pos hc1.1]
      exact q2 _ (hc.1.resolve_left (by omega))
    · rw [if_neg hc1] at hd
      by_cases hc2 : f i = nI 41 ∧ e < b
      · rw [if_pos hc2] at hd
        obtain ⟨q1, q2⟩ := ih _ _ _ (by omega) (by omega) (by omega) hd
        refine ⟨by omega, fun acc hc => ?_⟩
        rw [cmpl, Bool.and_eq_true, Bool.or_eq_true, Bool.or_eq_true, decide_eq_true_eq, decide_eq_true_eq] at hc
        rw [cdo, if_neg (fun z => by rw [hc2.1] at z; exact absurd z (by decide))]
        exact q2 _ (hc.2.resolve_left (by omega))
      · rw [if_neg hc2] at hd
        exact absurd hd (nI_n6 (by omega))
theorem dft_d {f : Nat → Int32} {v N : Nat} (h1 : 1 ≤ v) (h2 : v ≤ 5) (hN : N ≤ 24) (hd : dft f v N 0 0 0 = -6) : N = 2 * v ∧ tCode v (tIdx v (cdo f N 0 0)) = cdo f N 0 0 ∧ tIdx v (cdo f N 0 0) < tC v ∧ cdo f N 0 0 < 1024 := by
  obtain ⟨q1, q2⟩ := dft_ok N 0 0 0 (by omega) (by omega) (by omega) hd
  obtain rfl : N = 2 * v := by omega
  exact ⟨rfl, q2 0 (all5_of cmpl_k h1 h2)⟩
section M5
variable {M : Nat} {A : Nat → Nat → Int32} {g h : ex_Hp} {X : Option Value → ex_Hp → Prop} {v a b : Nat} {f0 : Nat → Int32}
theorem mTab.ua {k : Nat} {f : Nat → Int32} (hT : mTab v A) (k0 : ¬ 0 = k) (k5 : ¬ 5 = k) (k6 : ¬ 6 = k) (k7 : ¬ 7 = k) (k8 : ¬ 8 = k) : mTab v (ua A k f) := by
  unfold mTab
  rw [ua_n k0, ua_n k5, ua_n k6, ua_n k7, ua_n k8]
  exact hT
theorem l_dg {N : Nat} (hn : A 0 0 = nI N) (hN : N ≤ 24) : ∀ (n i acc : Nat), n + i = N → cdo (A 4) n i acc < 1024 → A 6 (cdo (A 4) n i acc) = nI a → X (some (.int (nI a))) (mdl M (ua A 0 (upd (A 0) 0 (nI 0))) g) → ex_W 114 14 [.ref M, .int (nI acc), .int (nI i)] [] (mdl M A g) X := by
  intro n
  induction n with
  | zero =>
    intro i acc hni hc h6 hX
    rw [cdo] at hc h6
    rw [s114_14]
    simp only [s114_0, s114_1, s114_4, s114_7, s114_9, s114_10, s114_11, s114_12, s114_13, s114_15, s114_16, s114_19, s114_22, s114_23, s114_24, s114_25, s114_26, s114_29, s114_30, s114_31, s114_33, s114_36, s114_37, s114_40, s114_41, s114_42, s114_43, s114_46, s114_49, s114_50, s114_51, s114_54, s114_55, s114_58, s114_59, s114_60, mis, mg1, mg2, mg3, mg4, mg5, mg6, mg7, mg8, mg9, mg10, mg11, mg12, mg13, mg14, mg15, mg16, mg17, mg18, mg19, mg20, mg21, mg22, ms1, ms2, ms3, ms4, ms5, ms6, ms7, ms8, ms9, ms10, ms11, ms12, ms13, ms14, ms15, ms16, ms17, ms18, ms19, ms20, ms21, ms22, mf0, mf1, mf2, mf3, mf4, mf5, mf6, mf7, mf8, mf9, mf10, mf11, mf12, mf13, mf14, mf15, mf16, mf17, mf18, mf19, mf20, mf21, mf22, mf23, mf24, mf25, mf26, mp4, mp7, mp22, mp25, mp26, mq_0, al_I, as_I, zl_Z, zs_0, zs_1, Nat.reduceAdd, Nat.reduceLeDiff, Nat.zero_le, cat_0, cat_i, cat_r, opt_n, opt_s, true_and, nI_add, pk_mul, ua_ua, ua_s, ua_n, not_false_eq_true, Nat.reduceEqDiff, hn]
    rw [if_pos ((nI_l1 (by omega) (by omega)).mpr (by omega))]
    simp only [s114_0, s114_1, s114_4, s114_7, s114_9, s114_10, s114_11, s114_12, s114_13, s114_15, s114_16, s114_19, s114_22, s114_23, s114_24, s114_25, s114_26, s114_29, s114_30, s114_31, s114_33, s114_36, s114_37, s114_40, s114_41, s114_42, s114_43, s114_46, s114_49, s114_50, s114_51, s114_54, s114_55, s114_58, s114_59, s114_60, mis, mg1, mg2, mg3, mg4, mg5, mg6, mg7, mg8, mg9, mg10, mg11, mg12, mg13, mg14, mg15, mg16, mg17, mg18, mg19, mg20, mg21, mg22, ms1, ms2, ms3, ms4, ms5, ms6, ms7, ms8, ms9, ms10, ms11, ms12, ms13, ms14, ms15, ms16, ms17, ms18, ms19, ms20, ms21, ms22, mf0, mf1, mf2, mf3, mf4, mf5, mf6, mf7, mf8, mf9, mf10, mf11, mf12, mf13, mf14, mf15, mf16, mf17, mf18, mf19, mf20, mf21, mf22, mf23, mf24, mf25, mf26, mp4, mp7, mp22, mp25, mp26, mq_0, al_I, as_I, zl_Z, zs_0, zs_1, Nat.reduceAdd, Nat.reduceLeDiff, Nat.zero_le, cat_0, cat_i, cat_r, opt_n, opt_s, true_and, nI_add, pk_mul, ua_ua, ua_s, ua_n, not_false_eq_true, Nat.reduceEqDiff, xi_n (show acc < 1024 by omega) (show 1024 < 2147483648 by decide), h6]
    exact hX
  | succ n ih =>
    intro i acc hni hc h6 hX
    rw [cdo] at hc h6
    rw [s114_14]
    simp only [s114_0, s114_1, s114_4, s114_7, s114_9, s114_10, s114_11, s114_12, s114_13, s114_15, s114_16, s114_19, s114_22, s114_23, s114_24, s114_25, s114_26, s114_29, s114_30, s114_31, s114_33, s114_36, s114_37, s114_40, s114_41, s114_42, s114_43, s114_46, s114_49, s114_50, s114_51, s114_54, s114_55, s114_58, s114_59, s114_60, mis, mg1, mg2, mg3, mg4, mg5, mg6, mg7, mg8, mg9, mg10, mg11, mg12, mg13, mg14, mg15, mg16, mg17, mg18, mg19, mg20, mg21, mg22, ms1, ms2, ms3, ms4, ms5, ms6, ms7, ms8, ms9, ms10, ms11, ms12, ms13, ms14, ms15, ms16, ms17, ms18, ms19, ms20, ms21, ms22, mf0, mf1, mf2, mf3, mf4, mf5, mf6, mf7, mf8, mf9, mf10, mf11, mf12, mf13, mf14, mf15, mf16, mf17, mf18, mf19, mf20, mf21, mf22, mf23, mf24, mf25, mf26, mp4, mp7, mp22, mp25, mp26, mq_0, al_I, as_I, zl_Z, zs_0, zs_1, Nat.reduceAdd, Nat.reduceLeDiff, Nat.zero_le, cat_0, cat_i, cat_r, opt_n, opt_s, true_and, nI_add, pk_mul, ua_ua, ua_s, ua_n, not_false_eq_true, Nat.reduceEqDiff, hn, xi_n (show i < 24 by omega) (show 24 < 2147483648 by decide)]
    rw [if_neg (fun z => absurd ((nI_l1 (by omega) (by omega)).mp z) (by omega))]
    by_cases h40 : A 4 i = nI 40
    · rw [if_pos h40] at hc h6
      rw [if_neg (fun z => z h40)]
      exact ih (i + 1) _ (by omega) hc h6 hX
    · rw [if_neg h40] at hc h6
      rw [if_pos h40]
      exact ih (i + 1) _ (by omega) hc h6 hX
theorem r_diagram {N : Nat} (h1 : 1 ≤ v) (h2 : v ≤ 5) (hv : A 1 0 = nI v) (hT : mTab v A) (hn : A 0 0 = nI N) (hN : N ≤ 24) (hX : if dft (A 4) v N 0 0 0 = -6 then X (some (.int (nI (tIdx v (cdo (A 4) N 0 0))))) (mdl M (ua A 0 (upd (A 0) 0 (nI 0))) g) else X (some (.int (-7))) (mdl M A g)) : ex_W 114 0 [.ref M, oU, oU] [] (mdl M A g) X := by
  simp only [s114_0, s114_1, s114_7, s114_9, s114_11, s114_12, s114_13, s114_15, s114_16, s114_19, s114_22, s114_23, s114_24, s114_25, s114_26, s114_29, s114_30, s114_31, s114_33, s114_36, s114_37, s114_40, s114_41, s114_42, s114_43, s114_46, s114_49, s114_50, s114_51, s114_54, s114_55, s114_58, s114_59, s114_60, mis, mg1, mg2, mg3, mg4, mg5, mg6, mg7, mg8, mg9, mg10, mg11, mg12, mg13, mg14, mg15, mg16, mg17, mg18, mg19, mg20, mg21, mg22, ms1, ms2, ms3, ms4, ms5, ms6, ms7, ms8, ms9, ms10, ms11, ms12, ms13, ms14, ms15, ms16, ms17, ms18, ms19, ms20, ms21, ms22, mf0, mf1, mf2, mf3, mf4, mf5, mf6, mf7, mf8, mf9, mf10, mf11, mf12, mf13, mf14, mf15, mf16, mf17, mf18, mf19, mf20, mf21, mf22, mf23, mf24, mf25, mf26, mp4, mp7, mp22, mp25, mp26, mq_0, al_I, as_I, zl_Z, zs_0, zs_1, Nat.reduceAdd, Nat.reduceLeDiff, Nat.zero_le, cat_0, cat_i, cat_r, opt_n, opt_s, true_and, nI_add, pk_mul, ua_ua, ua_s, ua_n, not_false_eq_true, Nat.reduceEqDiff]
  refine r_df h1 h2 hv hn hN ?_
  rcases dft_r (f := A 4) (v := v) N 0 0 0 (by omega) with hd | ⟨k, hk, hd⟩
  · rw [if_pos hd] at hX
    obtain ⟨q1, q2, q3, q4⟩ := dft_d h1 h2 hN hd
    simp only [s114_0, s114_1, s114_4, s114_7, s114_9, s114_10, s114_11, s114_12, s114_13, s114_15, s114_16, s114_19, s114_22, s114_23, s114_24, s114_25, s114_26, s114_29, s114_30, s114_31, s114_33, s114_36, s114_37, s114_40, s114_41, s114_42, s114_43, s114_46, s114_49, s114_50, s114_51, s114_54, s114_55, s114_58, s114_59, s114_60, mis, mg1, mg2, mg3, mg4, mg5, mg6, mg7, mg8, mg9, mg10, mg11, mg12, mg13, mg14, mg15, mg16, mg17, mg18, mg19, mg20, mg21, mg22, ms1, ms2, ms3, ms4, ms5, ms6, ms7, ms8, ms9, ms10, ms11, ms12, ms13, ms14, ms15, ms16, ms17, ms18, ms19, ms20, ms21, ms22, mf0, mf1, mf2, mf3, mf4, mf5, mf6, mf7, mf8, mf9, mf10, mf11, mf12, mf13, mf14, mf15, mf16, mf17, mf18, mf19, mf20, mf21, mf22, mf23, mf24, mf25, mf26, mp4, mp7, mp22, mp25, mp26, mq_0, al_I, as_I, zl_Z, zs_0, zs_1, Nat.reduceAdd, Nat.reduceLeDiff, Nat.zero_le, cat_0, cat_i, cat_r, opt_n, opt_s, true_and, nI_add, pk_mul, ua_ua, ua_s, ua_n, not_false_eq_true, Nat.reduceEqDiff]
    rw [hd, if_pos (by decide)]
    refine l_dg (a := tIdx v (cdo (A 4) N 0 0)) hn hN N 0 0 (by omega) q4 ?_ hX
    have := hT.2.2.1 _ q3
    rw [q2] at this
    exact this
  · rw [hd, if_neg (nI_n6 (by omega))] at hX
    simp only [s114_0, s114_1, s114_4, s114_7, s114_9, s114_10, s114_11, s114_12, s114_13, s114_15, s114_16, s114_19, s114_22, s114_23, s114_24, s114_25, s114_26, s114_29, s114_30, s114_31, s114_33, s114_36, s114_37, s114_40, s114_41, s114_42, s114_43, s114_46, s114_49, s114_50, s114_51, s114_54, s114_55, s114_58, s114_59, s114_60, mis, mg1, mg2, mg3, mg4, mg5, mg6, mg7, mg8, mg9, mg10, mg11, mg12, mg13, mg14, mg15, mg16, mg17, mg18, mg19, mg20, mg21, mg22, ms1, ms2, ms3, ms4, ms5, ms6, ms7, ms8, ms9, ms10, ms11, ms12, ms13, ms14, ms15, ms16, ms17, ms18, ms19, ms20, ms21, ms22, mf0, mf1, mf2, mf3, mf4, mf5, mf6, mf7, mf8, mf9, mf10, mf11, mf12, mf13, mf14, mf15, mf16, mf17, mf18, mf19, mf20, mf21, mf22, mf23, mf24, mf25, mf26, mp4, mp7, mp22, mp25, mp26, mq_0, al_I, as_I, zl_Z, zs_0, zs_1, Nat.reduceAdd, Nat.reduceLeDiff, Nat.zero_le, cat_0, cat_i, cat_r, opt_n, opt_s, true_and, nI_add, pk_mul, ua_ua, ua_s, ua_n, not_false_eq_true, Nat.reduceEqDiff]
    rw [hd, if_neg (fun z => absurd ((nI_l2 (by omega) (by omega)).mp z) (by omega))]
    exact hX
theorem r_joinTwo {p q : Nat} (hp : p < 10) (hq : q < 10) : ex_W 115 0 [.ref M, .int (nI p), .int (nI q)] [] (mdl M A g) X ↔ X none (mdl M (ua A 9 (upd (upd (A 9) p (nI q)) q (nI p))) g) := by
  simp only [s115_0, s115_1, s115_4, s115_5, s115_6, s115_7, s115_8, s115_11, s115_12, s115_13, s115_14, mis, mg1, mg2, mg3, mg4, mg5, mg6, mg7, mg8, mg9, mg10, mg11, mg12, mg13, mg14, mg15, mg16, mg17, mg18, mg19, mg20, mg21, mg22, ms1, ms2, ms3, ms4, ms5, ms6, ms7, ms8, ms9, ms10, ms11, ms12, ms13, ms14, ms15, ms16, ms17, ms18, ms19, ms20, ms21, ms22, mf0, mf1, mf2, mf3, mf4, mf5, mf6, mf7, mf8, mf9, mf10, mf11, mf12, mf13, mf14, mf15, mf16, mf17, mf18, mf19, mf20, mf21, mf22, mf23, mf24, mf25, mf26, mp4, mp7, mp22, mp25, mp26, mq_0, al_I, as_I, zl_Z, zs_0, zs_1, Nat.reduceAdd, Nat.reduceLeDiff, Nat.zero_le, cat_0, cat_i, cat_r, opt_n, opt_s, true_and, nI_add, pk_mul, ua_ua, ua_s, ua_n, not_false_eq_true, Nat.reduceEqDiff, xi_n (show p < 10 by omega) (show 10 < 2147483648 by decide), xi_n (show q < 10 by omega) (show 10 < 2147483648 by decide)]
def hkR (v i j : Nat) : Nat := if j = 2 * v - 1 - i then 2 * v - 1 - (i - 1) else if j = 2 * v - 1 - (i - 1) then 2 * v - 1 - i else if j = i then i - 1 else if j = i - 1 then i else 2 * v - 1 - j
theorem tHkR_k : all5 (fun v => allN v (fun i => allN (2 * v) (fun j => decide (i = 0) || decide (hkR v i j = tR v (tHk v i) j)))) = true := by decide +kernel
theorem tHkR {i j : Nat} (h1 : 1 ≤ v) (h2 : v ≤ 5) (hi1 : 1 ≤ i) (hi : i < v) (hj : j < 2 * v) : hkR v i j = tR v (tHk v i) j := by
  have := allN_of (allN_of (all5_of tHkR_k h1 h2) hi) hj
  rw [Bool.or_eq_true, decide_eq_true_eq, decide_eq_true_eq] at this
  exact this.resolve_left (by omega)
theorem l_hk (h1 : 1 ≤ v) (h2 : v ≤ 5) (hv : A 1 0 = nI v) {l1 : Value} (hX : ∀ f : Nat → Int32, (∀ j, j < 2 * v → f j = nI (2 * v - 1 - j)) → ex_W 116 28 [.ref M, l1, .int (nI v)] [] (mdl M (ua A 9 f) g) X) : ∀ (n p : Nat) (f : Nat → Int32), n + p = v → (∀ j, j < 2 * v → (j < p ∨ 2 * v - 1 - p < j) → f j = nI (2 * v - 1 - j)) → ex_W 116 2 [.ref M, l1, .int (nI p)] [] (mdl M (ua A 9 f) g) X := by
  intro n
  induction n with
  | zero =>
    intro p f hn hf
    obtain rfl : p = v := by omega
    rw [s116_2]
    simp only [s116_0, s116_1, s116_3, s116_4, s116_7, s116_8, s116_9, s116_12, s116_13, s116_14, s116_15, s116_16, s116_19, s116_22, s116_25, s116_29, s116_30, s116_31, s116_32, s116_33, s116_36, s116_37, s116_38, s116_39, s116_40, s116_41, s116_44, s116_45, s116_46, s116_49, s116_52, s116_53, s116_56, mis, mg1, mg2, mg3, mg4, mg5, mg6, mg7, mg8, mg9, mg10, mg11, mg12, mg13, mg14, mg15, mg16, mg17, mg18, mg19, mg20, mg21, mg22, ms1, ms2, ms3, ms4, ms5, ms6, ms7, ms8, ms9, ms10, ms11, ms12, ms13, ms14, ms15, ms16, ms17, ms18, ms19, ms20, ms21, ms22, mf0, mf1, mf2, mf3, mf4, mf5, mf6, mf7, mf8, mf9, mf10, mf11, mf12, mf13, mf14, mf15, mf16, mf17, mf18, mf19, mf20, mf21, mf22, mf23, mf24, mf25, mf26, mp4, mp7, mp22, mp25, mp26, mq_0, al_I, as_I, zl_Z, zs_0, zs_1, Nat.reduceAdd, Nat.reduceLeDiff, Nat.zero_le, cat_0, cat_i, cat_r, opt_n, opt_s, true_and, nI_add, pk_mul, ua_ua, ua_s, ua_n, not_false_eq_true, Nat.reduceEqDiff, hv, xi_n (show 0 < 213 by omega) (show 213 < 2147483648 by decide)]
    rw [if_pos ((nI_l1 (by omega) (by omega)).mpr (by omega))]
    exact hX f (fun j hj => hf j hj (by omega))
  | succ n ih =>
    intro p f hn hf
    have e1 : nI (2 * v) - nI 1 - nI p = nI (2 * v - 1 - p) := by rw [pk_sub (by omega), pk_sub (by omega)]
    rw [s116_2]
    simp only [s116_0, s116_1, s116_3, s116_4, s116_7, s116_8, s116_9, s116_12, s116_13, s116_14, s116_15, s116_16, s116_19, s116_22, s116_25, s116_29, s116_30, s116_31, s116_32, s116_33, s116_36, s116_37, s116_38, s116_39, s116_40, s116_41, s116_44, s116_45, s116_46, s116_49, s116_52, s116_53, s116_56, mis, mg1, mg2, mg3, mg4, mg5, mg6, mg7, mg8, mg9, mg10, mg11, mg12, mg13, mg14, mg15, mg16, mg17, mg18, mg19, mg20, mg21, mg22, ms1, ms2, ms3, ms4, ms5, ms6, ms7, ms8, ms9, ms10, ms11, ms12, ms13, ms14, ms15, ms16, ms17, ms18, ms19, ms20, ms21, ms22, mf0, mf1, mf2, mf3, mf4, mf5, mf6, mf7, mf8, mf9, mf10, mf11, mf12, mf13, mf14, mf15, mf16, mf17, mf18, mf19, mf20, mf21, mf22, mf23, mf24, mf25, mf26, mp4, mp7, mp22, mp25, mp26, mq_0, al_I, as_I, zl_Z, zs_0, zs_1, Nat.reduceAdd, Nat.reduceLeDiff, Nat.zero_le, cat_0, cat_i, cat_r, opt_n, opt_s, true_and, nI_add, pk_mul, ua_ua, ua_s, ua_n, not_false_eq_true, Nat.reduceEqDiff, hv, xi_n (show 0 < 213 by omega) (show 213 < 2147483648 by decide), r_across, e1, r_joinTwo (show p < 10 by omega) (show 2 * v - 1 - p < 10 by omega)]
    rw [if_neg (fun z => absurd ((nI_l1 (by omega) (by omega)).mp z) (by omega))]
    refine ih (p + 1) _ (by omega) (fun j hj hj2 => ?_)
    by_cases hj3 : j = 2 * v - 1 - p
    · rw [hj3, pk_us, show 2 * v - 1 - (2 * v - 1 - p) = p by omega]
    · rw [pk_un hj3]
      by_cases hj4 : j = p
      · rw [hj4, pk_us]
      · rw [pk_un hj4]
        exact hf j hj (by omega)
theorem r_hook {i : Nat} (h1 : 1 ≤ v) (h2 : v ≤ 5) (hv : A 1 0 = nI v) (hT : mTab v A) (hi1 : 1 ≤ i) (hi : i < v) (hX : ∀ f : Nat → Int32, X (some (.int (nI (tHk v i)))) (mdl M (ua A 9 f) g)) : ex_W 116 0 [.ref M, .int (nI i), oU] [] (mdl M A g) X := by
  rw [s116_0, s116_1]
  have hk := tHk_lt h1 h2 hi
  have := l_hk (M := M) (A := A) (g := g) (X := X) (l1 := .int (nI i)) h1 h2 hv (fun f hf => ?_) v 0 (A 9) (by omega) (fun j hj hj2 => by omega)
  · rw [ua_id] at this
    exact this
  have e1 : nI (2 * v) - nI 1 - nI i = nI (2 * v - 1 - i) := by rw [pk_sub (by omega), pk_sub (by omega)]
  have e2 : nI (2 * v) - nI 1 - nI (i - 1) = nI (2 * v - 1 - (i - 1)) := by rw [pk_sub (by omega), pk_sub (by omega)]
  simp only [s116_0, s116_1, s116_3, s116_4, s116_7, s116_8, s116_9, s116_12, s116_13, s116_14, s116_15, s116_16, s116_19, s116_22, s116_25, s116_28, s116_29, s116_30, s116_31, s116_32, s116_33, s116_36, s116_37, s116_38, s116_39, s116_40, s116_41, s116_44, s116_45, s116_46, s116_49, s116_52, s116_53, s116_56, mis, mg1, mg2, mg3, mg4, mg5, mg6, mg7, mg8, mg9, mg10, mg11, mg12, mg13, mg14, mg15, mg16, mg17, mg18, mg19, mg20, mg21, mg22, ms1, ms2, ms3, ms4, ms5, ms6, ms7, ms8, ms9, ms10, ms11, ms12, ms13, ms14, ms15, ms16, ms17, ms18, ms19, ms20, ms21, ms22, mf0, mf1, mf2, mf3, mf4, mf5, mf6, mf7, mf8, mf9, mf10, mf11, mf12, mf13, mf14, mf15, mf16, mf17, mf18, mf19, mf20, mf21, mf22, mf23, mf24, mf25, mf26, mp4, mp7, mp22, mp25, mp26, mq_0, al_I, as_I, zl_Z, zs_0, zs_1, Nat.reduceAdd, Nat.reduceLeDiff, Nat.zero_le, cat_0, cat_i, cat_r, opt_n, opt_s, true_and, nI_add, pk_mul, ua_ua, ua_s, ua_n, not_false_eq_true, Nat.reduceEqDiff, hv, r_across, e1, e2, pk_sub hi1, r_joinTwo (show i - 1 < 10 by omega) (show i < 10 by omega), r_joinTwo (show 2 * v - 1 - (i - 1) < 10 by omega) (show 2 * v - 1 - i < 10 by omega)]
  refine r_indexOfRow h1 h2 hk hv (fun j hj => ?_) (hT.2.2.1 _ hk) ?_
  · rw [ua_s, ← tHkR h1 h2 hi1 hi hj]
    unfold hkR
    by_cases c1 : j = 2 * v - 1 - i
    · rw [if_pos c1, c1, pk_us]
    · rw [if_neg c1, pk_un c1]
      by_cases c2 : j = 2 * v - 1 - (i - 1)
      · rw [if_pos c2, c2, pk_us]
      · rw [if_neg c2, pk_un c2]
        by_cases c3 : j = i
        · rw [if_pos c3, c3, pk_us]
        · rw [if_neg c3, pk_un c3]
          by_cases c4 : j = i - 1
          · rw [if_pos c4, c4, pk_us]
          · rw [if_neg c4, pk_un c4]
            exact hf j hj
  · simp only [s116_0, s116_1, s116_3, s116_4, s116_7, s116_8, s116_9, s116_12, s116_13, s116_14, s116_15, s116_16, s116_19, s116_22, s116_25, s116_28, s116_29, s116_30, s116_31, s116_32, s116_33, s116_36, s116_37, s116_38, s116_39, s116_40, s116_41, s116_44, s116_45, s116_46, s116_49, s116_52, s116_53, s116_56, mis, mg1, mg2, mg3, mg4, mg5, mg6, mg7, mg8, mg9, mg10, mg11, mg12, mg13, mg14, mg15, mg16, mg17, mg18, mg19, mg20, mg21, mg22, ms1, ms2, ms3, ms4, ms5, ms6, ms7, ms8, ms9, ms10, ms11, ms12, ms13, ms14, ms15, ms16, ms17, ms18, ms19, ms20, ms21, ms22, mf0, mf1, mf2, mf3, mf4, mf5, mf6, mf7, mf8, mf9, mf10, mf11, mf12, mf13, mf14, mf15, mf16, mf17, mf18, mf19, mf20, mf21, mf22, mf23, mf24, mf25, mf26, mp4, mp7, mp22, mp25, mp26, mq_0, al_I, as_I, zl_Z, zs_0, zs_1, Nat.reduceAdd, Nat.reduceLeDiff, Nat.zero_le, cat_0, cat_i, cat_r, opt_n, opt_s, true_and, nI_add, pk_mul, ua_ua, ua_s, ua_n, not_false_eq_true, Nat.reduceEqDiff]
    exact hX _
/-- the figure at a place of the pad, and what a word makes -/
def wk (f : Nat → Int32) (i : Nat) : Nat := (f i - nI 48).toNatClampNeg
def wdo (v : Nat) (f : Nat → Int32) : Nat → Nat → Nat → Nat → Nat × Nat
  | 0, _, d, c => (d, c)
  | n + 1, i, d, c => wdo v f n (i + 1) (tP v d (tHk v (wk f i))) (c + tQ v d (tHk v (wk f i)))
theorem wft_r {f : Nat → Int32} {v : Nat} : ∀ (n i : Nat), n + i ≤ 24 → wft f v n i = -6 ∨ ∃ k, k ≤ 24 ∧ wft f v n i = nI k := by
  intro n
  induction n with
  | zero => intro i hn; exact Or.inl rfl
  | succ n ih =>
    intro i hn
    rw [wft]
    split
    · exact ih _ (by omega)
    · exact Or.inr ⟨i, by omega, rfl⟩
theorem wft_ok {f : Nat → Int32} {v : Nat} (h2 : v ≤ 5) : ∀ (n i : Nat), n + i ≤ 24 → wft f v n i = -6 → ∀ j, i ≤ j → j < n + i → f j - nI 48 = nI (wk f j) ∧ 1 ≤ wk f j ∧ wk f j < v := by
  intro n
  induction n with
  | zero => intro i hn hw j hj hj2; omega
  | succ n ih =>
    intro i hn hw j hj hj2
    rw [wft] at hw
    by_cases hc : nI 1 ≤ f i - nI 48 ∧ f i - nI 48 ≤ nI (v - 1)
    · rw [if_pos hc] at hw
      by_cases hji : j = i
      · subst hji
        obtain ⟨k, k1, k2, k3⟩ := pk_ixe (by omega) hc (by omega)
        have : wk f j = k := by
          unfold wk
          rw [k3, nI_clamp (by have e : (2:Nat)^31 = 2147483648 := rfl; omega)]
        rw [this]
        exact ⟨k3, k1, by omega⟩
      · exact ih (i + 1) (by omega) hw j (by omega) (by omega)
    · rw [if_neg hc] at hw
      exact absurd hw (nI_n6 (by omega))
theorem l_word {N : Nat} {l1 : Value} {F : Nat → Int32} (h1 : 1 ≤ v) (h2 : v ≤ 5) {A0 : Nat → Nat → Int32} (hv : A0 1 0 = nI v) (hT : mTab v A0) (hn : A0 0 0 = nI N) (hN : N ≤ 24) (hF : A0 4 = F) (hw : ∀ j, j < N → F j - nI 48 = nI (wk F j) ∧ 1 ≤ wk F j ∧ wk F j < v) : ∀ (n i d c : Nat) (l5 : Value) (f : Nat → Int32), n + i = N → d < tC v → (∀ l5 f, ex_W 117 88 [.ref M, l1, .int (nI (wdo v F n i d c).1), .int (nI (wdo v F n i d c).2), .int (nI N), l5] [] (mdl M (ua A0 9 f) g) X) → ex_W 117 29 [.ref M, l1, .int (nI d), .int (nI c), .int (nI i), l5] [] (mdl M (ua A0 9 f) g) X := by
  have hC := tC_le h1 h2
  intro n
  induction n with
  | zero =>
    intro i d c l5 f hni hd hX
    obtain rfl : i = N := by omega
    rw [s117_29]
    simp only [s117_0, s117_1, s117_2, s117_3, s117_6, s117_9, s117_11, s117_12, s117_13, s117_16, s117_19, s117_21, s117_22, s117_23, s117_24, s117_25, s117_26, s117_27, s117_31, s117_32, s117_35, s117_38, s117_39, s117_40, s117_43, s117_45, s117_46, s117_48, s117_49, s117_52, s117_54, s117_55, s117_56, s117_59, s117_61, s117_62, s117_63, s117_65, s117_66, s117_67, s117_68, s117_69, s117_70, s117_73, s117_75, s117_76, s117_77, s117_79, s117_80, s117_81, s117_82, s117_85, s117_89, s117_92, s117_93, s117_96, s117_97, mis, mg1, mg2, mg3, mg4, mg5, mg6, mg7, mg8, mg9, mg10, mg11, mg12, mg13, mg14, mg15, mg16, mg17, mg18, mg19, mg20, mg21, mg22, ms1, ms2, ms3, ms4, ms5, ms6, ms7, ms8, ms9, ms10, ms11, ms12, ms13, ms14, ms15, ms16, ms17, ms18, ms19, ms20, ms21, ms22, mf0, mf1, mf2, mf3, mf4, mf5, mf6, mf7, mf8, mf9, mf10, mf11, mf12, mf13, mf14, mf15, mf16, mf17, mf18, mf19, mf20, mf21, mf22, mf23, mf24, mf25, mf26, mp4, mp7, mp22, mp25, mp26, mq_0, al_I, as_I, zl_Z, zs_0, zs_1, Nat.reduceAdd, Nat.reduceLeDiff, Nat.zero_le, cat_0, cat_i, cat_r, opt_n, opt_s, true_and, nI_add, pk_mul, ua_ua, ua_s, ua_n, not_false_eq_true, Nat.reduceEqDiff, hn]
    rw [if_pos ((nI_l1 (by omega) (by omega)).mpr (by omega))]
    exact hX l5 f
  | succ n ih =>
    intro i d c l5 f hni hd hX
    obtain ⟨q1, q2, q3⟩ := hw i (by omega)
    have hk := tHk_lt h1 h2 q3
    rw [wdo] at hX
    rw [s117_29]
    have hT' : mTab v (ua A0 9 f) := hT.ua (by decide) (by decide) (by decide) (by decide) (by decide)
    simp only [s117_0, s117_1, s117_2, s117_3, s117_6, s117_9, s117_11, s117_12, s117_13, s117_16, s117_19, s117_21, s117_22, s117_23, s117_24, s117_25, s117_26, s117_27, s117_31, s117_32, s117_35, s117_38, s117_39, s117_40, s117_43, s117_45, s117_46, s117_48, s117_49, s117_52, s117_54, s117_55, s117_56, s117_59, s117_61, s117_62, s117_63, s117_65, s117_66, s117_67, s117_68, s117_69, s117_70, s117_73, s117_75, s117_76, s117_77, s117_79, s117_80, s117_81, s117_82, s117_85, s117_89, s117_92, s117_93, s117_96, s117_97, mis, mg1, mg2, mg3, mg4, mg5, mg6, mg7, mg8, mg9, mg10, mg11, mg12, mg13, mg14, mg15, mg16, mg17, mg18, mg19, mg20, mg21, mg22, ms1, ms2, ms3, ms4, ms5, ms6, ms7, ms8, ms9, ms10, ms11, ms12, ms13, ms14, ms15, ms16, ms17, ms18, ms19, ms20, ms21, ms22, mf0, mf1, mf2, mf3, mf4, mf5, mf6, mf7, mf8, mf9, mf10, mf11, mf12, mf13, mf14, mf15, mf16, mf17, mf18, mf19, mf20, mf21, mf22, mf23, mf24, mf25, mf26, mp4, mp7, mp22, mp25, mp26, mq_0, al_I, as_I, zl_Z, zs_0, zs_1, Nat.reduceAdd, Nat.reduceLeDiff, Nat.zero_le, cat_0, cat_i, cat_r, opt_n, opt_s, true_and, nI_add, pk_mul, ua_ua, ua_s, ua_n, not_false_eq_true, Nat.reduceEqDiff, hn, hF, xi_n (show i < 24 by omega) (show 24 < 2147483648 by decide), q1]
    rw [if_neg (fun z => absurd ((nI_l1 (by omega) (by omega)).mp z) (by omega))]
    refine r_hook h1 h2 (by rw [ua_n (by decide)]; exact hv) hT' q2 q3 (fun f' => ?_)
    have hq := hT.2.2.2 d hd _ hk
    have hp := (tP_lt h1 h2 hd hk).1
    simp only [s117_0, s117_1, s117_2, s117_3, s117_6, s117_9, s117_11, s117_12, s117_13, s117_16, s117_19, s117_21, s117_22, s117_23, s117_24, s117_25, s117_26, s117_27, s117_31, s117_32, s117_35, s117_38, s117_39, s117_40, s117_43, s117_45, s117_46, s117_48, s117_49, s117_52, s117_54, s117_55, s117_56, s117_59, s117_61, s117_62, s117_63, s117_65, s117_66, s117_67, s117_68, s117_69, s117_70, s117_73, s117_75, s117_76, s117_77, s117_79, s117_80, s117_81, s117_82, s117_85, s117_89, s117_92, s117_93, s117_96, s117_97, mis, mg1, mg2, mg3, mg4, mg5, mg6, mg7, mg8, mg9, mg10, mg11, mg12, mg13, mg14, mg15, mg16, mg17, mg18, mg19, mg20, mg21, mg22, ms1, ms2, ms3, ms4, ms5, ms6, ms7, ms8, ms9, ms10, ms11, ms12, ms13, ms14, ms15, ms16, ms17, ms18, ms19, ms20, ms21, ms22, mf0, mf1, mf2, mf3, mf4, mf5, mf6, mf7, mf8, mf9, mf10, mf11, mf12, mf13, mf14, mf15, mf16, mf17, mf18, mf19, mf20, mf21, mf22, mf23, mf24, mf25, mf26, mp4, mp7, mp22, mp25, mp26, mq_0, al_I, as_I, zl_Z, zs_0, zs_1, Nat.reduceAdd, Nat.reduceLeDiff, Nat.zero_le, cat_0, cat_i, cat_r, opt_n, opt_s, true_and, nI_add, pk_mul, ua_ua, ua_s, ua_n, not_false_eq_true, Nat.reduceEqDiff, xi_n (show 42 * d + tHk v (wk F i) < 1764 by omega) (show 1764 < 2147483648 by decide), hq.1, hq.2]
    exact ih (i + 1) _ _ _ _ (by omega) hp hX
theorem r_word {x : Int32} {N : Nat} (h1 : 1 ≤ v) (h2 : v ≤ 5) (hv : A 1 0 = nI v) (hT : mTab v A) (hn : A 0 0 = nI N) (hN : N ≤ 24) (hX : ∀ f : Nat → Int32, X (some (.int (if nI 0 ≤ x ∧ x ≤ nI 1 then (if wft (A 4) v N 0 = -6 then (if x = nI 0 then nI (wdo v (A 4) N 0 0 0).1 else nI (wdo v (A 4) N 0 0 0).2) else -7) else -2))) (mdl M (ua A 9 f) g)) : ex_W 117 0 [.ref M, .int x, oU, oU, oU, oU] [] (mdl M A g) X := by
  by_cases hx : nI 0 ≤ x ∧ x ≤ nI 1
  · simp only [if_pos hx] at hX
    simp only [s117_0, s117_1, s117_2, s117_3, s117_6, s117_9, s117_11, s117_13, s117_16, s117_19, s117_21, s117_22, s117_23, s117_24, s117_25, s117_26, s117_27, s117_31, s117_32, s117_35, s117_38, s117_39, s117_40, s117_43, s117_45, s117_46, s117_48, s117_49, s117_52, s117_54, s117_55, s117_56, s117_59, s117_61, s117_62, s117_63, s117_65, s117_66, s117_67, s117_68, s117_69, s117_70, s117_73, s117_75, s117_76, s117_77, s117_79, s117_80, s117_81, s117_82, s117_85, s117_89, s117_92, s117_93, s117_96, s117_97, mis, mg1, mg2, mg3, mg4, mg5, mg6, mg7, mg8, mg9, mg10, mg11, mg12, mg13, mg14, mg15, mg16, mg17, mg18, mg19, mg20, mg21, mg22, ms1, ms2, ms3, ms4, ms5, ms6, ms7, ms8, ms9, ms10, ms11, ms12, ms13, ms14, ms15, ms16, ms17, ms18, ms19, ms20, ms21, ms22, mf0, mf1, mf2, mf3, mf4, mf5, mf6, mf7, mf8, mf9, mf10, mf11, mf12, mf13, mf14, mf15, mf16, mf17, mf18, mf19, mf20, mf21, mf22, mf23, mf24, mf25, mf26, mp4, mp7, mp22, mp25, mp26, mq_0, al_I, as_I, zl_Z, zs_0, zs_1, Nat.reduceAdd, Nat.reduceLeDiff, Nat.zero_le, cat_0, cat_i, cat_r, opt_n, opt_s, true_and, nI_add, pk_mul, ua_ua, ua_s, ua_n, not_false_eq_true, Nat.reduceEqDiff, r_in, if_pos hx]
    rw [if_pos (by decide)]
    simp only [s117_12, s117_13, mis, mg1, mg2, mg3, mg4, mg5, mg6, mg7, mg8, mg9, mg10, mg11, mg12, mg13, mg14, mg15, mg16, mg17, mg18, mg19, mg20, mg21, mg22, ms1, ms2, ms3, ms4, ms5, ms6, ms7, ms8, ms9, ms10, ms11, ms12, ms13, ms14, ms15, ms16, ms17, ms18, ms19, ms20, ms21, ms22, mf0, mf1, mf2, mf3, mf4, mf5, mf6, mf7, mf8, mf9, mf10, mf11, mf12, mf13, mf14, mf15, mf16, mf17, mf18, mf19, mf20, mf21, mf22, mf23, mf24, mf25, mf26, mp4, mp7, mp22, mp25, mp26, mq_0, al_I, as_I, zl_Z, zs_0, zs_1, Nat.reduceAdd, Nat.reduceLeDiff, Nat.zero_le, cat_0, cat_i, cat_r, opt_n, opt_s, true_and, nI_add, pk_mul, ua_ua, ua_s, ua_n, not_false_eq_true, Nat.reduceEqDiff]
    refine r_wf h1 h2 hv hn hN ?_
    rcases wft_r (f := A 4) (v := v) N 0 (by omega) with hd | ⟨k, hk, hd⟩
    · simp only [if_pos hd] at hX
      simp only [s117_0, s117_1, s117_2, s117_3, s117_6, s117_9, s117_11, s117_12, s117_13, s117_16, s117_19, s117_21, s117_22, s117_23, s117_24, s117_25, s117_26, s117_27, s117_31, s117_32, s117_35, s117_38, s117_39, s117_40, s117_43, s117_45, s117_46, s117_48, s117_49, s117_52, s117_54, s117_55, s117_56, s117_59, s117_61, s117_62, s117_63, s117_65, s117_66, s117_67, s117_68, s117_69, s117_70, s117_73, s117_75, s117_76, s117_77, s117_79, s117_80, s117_81, s117_82, s117_85, s117_89, s117_92, s117_93, s117_96, s117_97, mis, mg1, mg2, mg3, mg4, mg5, mg6, mg7, mg8, mg9, mg10, mg11, mg12, mg13, mg14, mg15, mg16, mg17, mg18, mg19, mg20, mg21, mg22, ms1, ms2, ms3, ms4, ms5, ms6, ms7, ms8, ms9, ms10, ms11, ms12, ms13, ms14, ms15, ms16, ms17, ms18, ms19, ms20, ms21, ms22, mf0, mf1, mf2, mf3, mf4, mf5, mf6, mf7, mf8, mf9, mf10, mf11, mf12, mf13, mf14, mf15, mf16, mf17, mf18, mf19, mf20, mf21, mf22, mf23, mf24, mf25, mf26, mp4, mp7, mp22, mp25, mp26, mq_0, al_I, as_I, zl_Z, zs_0, zs_1, Nat.reduceAdd, Nat.reduceLeDiff, Nat.zero_le, cat_0, cat_i, cat_r, opt_n, opt_s, true_and, nI_add, pk_mul, ua_ua, ua_s, ua_n, not_false_eq_true, Nat.reduceEqDiff]
      rw [hd, if_pos (by decide)]
      have := l_word (M := M) (g := g) (X := X) (l1 := .int x) h1 h2 hv hT hn hN rfl (fun j hj => wft_ok h2 N 0 (by omega) hd j (by omega) (by omega)) N 0 0 0 oU (A 9) (by omega) (by have := tC_le h1 h2; omega) (fun l5 f => ?_)
      · rw [ua_id] at this
        exact this
      rw [s117_88]
      simp only [s117_0, s117_1, s117_2, s117_3, s117_6, s117_9, s117_11, s117_12, s117_13, s117_16, s117_19, s117_21, s117_22, s117_23, s117_24, s117_25, s117_26, s117_27, s117_31, s117_32, s117_35, s117_38, s117_39, s117_40, s117_43, s117_45, s117_46, s117_48, s117_49, s117_52, s117_54, s117_55, s117_56, s117_59, s117_61, s117_62, s117_63, s117_65, s117_66, s117_67, s117_68, s117_69, s117_70, s117_73, s117_75, s117_76, s117_77, s117_79, s117_80, s117_81, s117_82, s117_85, s117_89, s117_92, s117_93, s117_96, s117_97, mis, mg1, mg2, mg3, mg4, mg5, mg6, mg7, mg8, mg9, mg10, mg11, mg12, mg13, mg14, mg15, mg16, mg17, mg18, mg19, mg20, mg21, mg22, ms1, ms2, ms3, ms4, ms5, ms6, ms7, ms8, ms9, ms10, ms11, ms12, ms13, ms14, ms15, ms16, ms17, ms18, ms19, ms20, ms21, ms22, mf0, mf1, mf2, mf3, mf4, mf5, mf6, mf7, mf8, mf9, mf10, mf11, mf12, mf13, mf14, mf15, mf16, mf17, mf18, mf19, mf20, mf21, mf22, mf23, mf24, mf25, mf26, mp4, mp7, mp22, mp25, mp26, mq_0, al_I, as_I, zl_Z, zs_0, zs_1, Nat.reduceAdd, Nat.reduceLeDiff, Nat.zero_le, cat_0, cat_i, cat_r, opt_n, opt_s, true_and, nI_add, pk_mul, ua_ua, ua_s, ua_n, not_false_eq_true, Nat.reduceEqDiff]
      by_cases h0 : x = nI 0
      · simp only [if_pos h0] at hX
        rw [if_neg (fun z => z h0)]
        exact hX _
      · simp only [if_neg h0] at hX
        rw [if_pos h0]
        exact hX _
    · simp only [hd, if_neg (nI_n6 (show k < 2147483648 by omega))] at hX
      simp only [s117_0, s117_1, s117_2, s117_3, s117_6, s117_9, s117_11, s117_12, s117_13, s117_16, s117_19, s117_21, s117_22, s117_23, s117_24, s117_25, s117_26, s117_27, s117_31, s117_32, s117_35, s117_38, s117_39, s117_40, s117_43, s117_45, s117_46, s117_48, s117_49, s117_52, s117_54, s117_55, s117_56, s117_59, s117_61, s117_62, s117_63, s117_65, s117_66, s117_67, s117_68, s117_69, s117_70, s117_73, s117_75, s117_76, s117_77, s117_79, s117_80, s117_81, s117_82, s117_85, s117_89, s117_92, s117_93, s117_96, s117_97, mis, mg1, mg2, mg3, mg4, mg5, mg6, mg7, mg8, mg9, mg10, mg11, mg12, mg13, mg14, mg15, mg16, mg17, mg18, mg19, mg20, mg21, mg22, ms1, ms2, ms3, ms4, ms5, ms6, ms7, ms8, ms9, ms10, ms11, ms12, ms13, ms14, ms15, ms16, ms17, ms18, ms19, ms20, ms21, ms22, mf0, mf1, mf2, mf3, mf4, mf5, mf6, mf7, mf8, mf9, mf10, mf11, mf12, mf13, mf14, mf15, mf16, mf17, mf18, mf19, mf20, mf21, mf22, mf23, mf24, mf25, mf26, mp4, mp7, mp22, mp25, mp26, mq_0, al_I, as_I, zl_Z, zs_0, zs_1, Nat.reduceAdd, Nat.reduceLeDiff, Nat.zero_le, cat_0, cat_i, cat_r, opt_n, opt_s, true_and, nI_add, pk_mul, ua_ua, ua_s, ua_n, not_false_eq_true, Nat.reduceEqDiff]
      rw [hd, if_neg (fun z => absurd ((nI_l2 (by omega) (by omega)).mp z) (by omega))]
      have := hX (A 9)
      rw [ua_id] at this
      exact this
  · simp only [if_neg hx] at hX
    simp only [s117_0, s117_1, s117_2, s117_3, s117_6, s117_9, s117_11, s117_12, s117_13, s117_16, s117_19, s117_21, s117_22, s117_23, s117_24, s117_25, s117_26, s117_27, s117_31, s117_32, s117_35, s117_38, s117_39, s117_40, s117_43, s117_45, s117_46, s117_48, s117_49, s117_52, s117_54, s117_55, s117_56, s117_59, s117_61, s117_62, s117_63, s117_65, s117_66, s117_67, s117_68, s117_69, s117_70, s117_73, s117_75, s117_76, s117_77, s117_79, s117_80, s117_81, s117_82, s117_85, s117_89, s117_92, s117_93, s117_96, s117_97, mis, mg1, mg2, mg3, mg4, mg5, mg6, mg7, mg8, mg9, mg10, mg11, mg12, mg13, mg14, mg15, mg16, mg17, mg18, mg19, mg20, mg21, mg22, ms1, ms2, ms3, ms4, ms5, ms6, ms7, ms8, ms9, ms10, ms11, ms12, ms13, ms14, ms15, ms16, ms17, ms18, ms19, ms20, ms21, ms22, mf0, mf1, mf2, mf3, mf4, mf5, mf6, mf7, mf8, mf9, mf10, mf11, mf12, mf13, mf14, mf15, mf16, mf17, mf18, mf19, mf20, mf21, mf22, mf23, mf24, mf25, mf26, mp4, mp7, mp22, mp25, mp26, mq_0, al_I, as_I, zl_Z, zs_0, zs_1, Nat.reduceAdd, Nat.reduceLeDiff, Nat.zero_le, cat_0, cat_i, cat_r, opt_n, opt_s, true_and, nI_add, pk_mul, ua_ua, ua_s, ua_n, not_false_eq_true, Nat.reduceEqDiff, r_in, if_neg hx]
    rw [if_neg (fun z => z trivial)]
    have := hX (A 9)
    rw [ua_id] at this
    exact this
end M5
