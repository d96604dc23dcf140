/-! THE REFERENCE: numbers, prime, put, at, images, count -/
def mSt (v p lo : Nat) (S : Nat → Nat → Nat) (f : Nat → Int32) : Prop := f 0 = nI v ∧ f 1 = nI p ∧ f 2 = nI lo ∧ ∀ s, s < 5 → ∀ d, d < 42 → f (3 + 42 * s + d) = nI (S s d)
def prT (n : Nat) : Bool := allN 11 (fun k => decide (k < 2) || decide (n ≤ k) || decide (n % k ≠ 0))
abbrev isPr (x : Int32) : Prop := isW 2 101 x ∧ prT (ix x) = true
def prL (n : Nat) : Nat → Nat → Bool → Bool
  | 0, _, b => b
  | m + 1, k, b => if k < n then prL n m (k + 1) (b && decide (n % k ≠ 0)) else b
theorem prL_k : allN 102 (fun n => decide (n < 2) || decide (prL n 9 2 true = prT n)) = true := by decide +kernel
def bI (b : Bool) : Int32 := if b = true then nI 1 else nI 0
section M8
variable {M : Nat} {A : Nat → Nat → Int32} {g h : ex_Hp} {X : Option Value → ex_Hp → Prop} {v a b d p lo : Nat} {f0 : Nat → Int32}
theorem l_pr0 {x : Int32} : ∀ (n k : Nat), n + k = 11 → 2 ≤ k → X (some (.int (nI 0))) h → ex_W 126 10 [.int x, .int (nI 0), .int (nI k)] [] h X := by
  intro n
  induction n with
  | zero =>
    intro k hn hk hX
    obtain rfl : k = 11 := by omega
    rw [s126_10]
    simp only [s126_0, s126_1, s126_2, s126_4, s126_7, s126_8, s126_9, s126_11, s126_12, s126_15, s126_16, s126_18, s126_21, s126_22, s126_25, s126_26, s126_27, s126_28, s126_31, s126_32, s126_35, s126_36, s126_37, s126_40, s126_43, s126_44, mis, mg1, mg2, mg3, mg4, mg5, mg6, mg7, mg8, mg9, mg10, mg11, mg12, mg13, mg14, mg15, mg16, mg17, mg18, mg19, mg20, mg21, mg22, ms1, ms2, ms3, ms4, ms5, ms6, ms7, ms8, ms9, ms10, ms11, ms12, ms13, ms14, ms15, ms16, ms17, ms18, ms19, ms20, ms21, ms22, mf0, mf1, mf2, mf3, mf4, mf5, mf6, mf7, mf8, mf9, mf10, mf11, mf12, mf13, mf14, mf15, mf16, mf17, mf18, mf19, mf20, mf21, mf22, mf23, mf24, mf25, mf26, mp4, mp7, mp22, mp25, mp26, mq_0, al_I, as_I, zl_Z, zs_0, zs_1, Nat.reduceAdd, Nat.reduceLeDiff, Nat.zero_le, cat_0, cat_i, cat_r, opt_n, opt_s, true_and, nI_add, pk_mul, ua_ua, ua_s, ua_n, not_false_eq_true, Nat.reduceEqDiff, true_or, true_and]
    split
    · exact hX
    · rw [if_pos (by decide)]
      exact hX
  | succ n ih =>
    intro k hn hk hX
    rw [s126_10]
    simp only [s126_0, s126_1, s126_2, s126_4, s126_7, s126_8, s126_9, s126_11, s126_12, s126_15, s126_16, s126_18, s126_21, s126_22, s126_25, s126_26, s126_27, s126_28, s126_31, s126_32, s126_35, s126_36, s126_37, s126_40, s126_43, s126_44, mis, mg1, mg2, mg3, mg4, mg5, mg6, mg7, mg8, mg9, mg10, mg11, mg12, mg13, mg14, mg15, mg16, mg17, mg18, mg19, mg20, mg21, mg22, ms1, ms2, ms3, ms4, ms5, ms6, ms7, ms8, ms9, ms10, ms11, ms12, ms13, ms14, ms15, ms16, ms17, ms18, ms19, ms20, ms21, ms22, mf0, mf1, mf2, mf3, mf4, mf5, mf6, mf7, mf8, mf9, mf10, mf11, mf12, mf13, mf14, mf15, mf16, mf17, mf18, mf19, mf20, mf21, mf22, mf23, mf24, mf25, mf26, mp4, mp7, mp22, mp25, mp26, mq_0, al_I, as_I, zl_Z, zs_0, zs_1, Nat.reduceAdd, Nat.reduceLeDiff, Nat.zero_le, cat_0, cat_i, cat_r, opt_n, opt_s, true_and, nI_add, pk_mul, ua_ua, ua_s, ua_n, not_false_eq_true, Nat.reduceEqDiff, true_or, true_and, i10, i10n, not_true_eq_false, if_false, if_true]
    split
    · exact hX
    · rw [if_neg (fun z => absurd ((nI_l1 (by omega) (by omega)).mp z) (by omega))]
      exact ih (k + 1) (by omega) (by omega) hX
theorem l_pr {N : Nat} (hN : N ≤ 101) : ∀ (n k : Nat) (b : Bool), n + k = 11 → 2 ≤ k → X (some (.int (bI (prL N n k b)))) h → ex_W 126 10 [.int (nI N), .int (bI b), .int (nI k)] [] h X := by
  intro n
  induction n with
  | zero =>
    intro k b hn hk hX
    obtain rfl : k = 11 := by omega
    rw [s126_10]
    simp only [s126_0, s126_1, s126_2, s126_4, s126_7, s126_8, s126_9, s126_11, s126_12, s126_15, s126_16, s126_18, s126_21, s126_22, s126_25, s126_26, s126_27, s126_28, s126_31, s126_32, s126_35, s126_36, s126_37, s126_40, s126_43, s126_44, mis, mg1, mg2, mg3, mg4, mg5, mg6, mg7, mg8, mg9, mg10, mg11, mg12, mg13, mg14, mg15, mg16, mg17, mg18, mg19, mg20, mg21, mg22, ms1, ms2, ms3, ms4, ms5, ms6, ms7, ms8, ms9, ms10, ms11, ms12, ms13, ms14, ms15, ms16, ms17, ms18, ms19, ms20, ms21, ms22, mf0, mf1, mf2, mf3, mf4, mf5, mf6, mf7, mf8, mf9, mf10, mf11, mf12, mf13, mf14, mf15, mf16, mf17, mf18, mf19, mf20, mf21, mf22, mf23, mf24, mf25, mf26, mp4, mp7, mp22, mp25, mp26, mq_0, al_I, as_I, zl_Z, zs_0, zs_1, Nat.reduceAdd, Nat.reduceLeDiff, Nat.zero_le, cat_0, cat_i, cat_r, opt_n, opt_s, true_and, nI_add, pk_mul, ua_ua, ua_s, ua_n, not_false_eq_true, Nat.reduceEqDiff]
    have hb : bI b = 0 ∨ bI b = 1 := by cases b; exact Or.inl rfl; exact Or.inr rfl
    split
    · exact ⟨hb, hX⟩
    · rw [if_pos (by decide)]
      exact ⟨hb, hX⟩
  | succ n ih =>
    intro k b hn hk hX
    have hb : bI b = 0 ∨ bI b = 1 := by cases b; exact Or.inl rfl; exact Or.inr rfl
    rw [prL] at hX
    rw [s126_10]
    simp only [s126_0, s126_1, s126_2, s126_4, s126_7, s126_8, s126_9, s126_11, s126_12, s126_15, s126_16, s126_18, s126_21, s126_22, s126_25, s126_26, s126_27, s126_28, s126_31, s126_32, s126_35, s126_36, s126_37, s126_40, s126_43, s126_44, mis, mg1, mg2, mg3, mg4, mg5, mg6, mg7, mg8, mg9, mg10, mg11, mg12, mg13, mg14, mg15, mg16, mg17, mg18, mg19, mg20, mg21, mg22, ms1, ms2, ms3, ms4, ms5, ms6, ms7, ms8, ms9, ms10, ms11, ms12, ms13, ms14, ms15, ms16, ms17, ms18, ms19, ms20, ms21, ms22, mf0, mf1, mf2, mf3, mf4, mf5, mf6, mf7, mf8, mf9, mf10, mf11, mf12, mf13, mf14, mf15, mf16, mf17, mf18, mf19, mf20, mf21, mf22, mf23, mf24, mf25, mf26, mp4, mp7, mp22, mp25, mp26, mq_0, al_I, as_I, zl_Z, zs_0, zs_1, Nat.reduceAdd, Nat.reduceLeDiff, Nat.zero_le, cat_0, cat_i, cat_r, opt_n, opt_s, true_and, nI_add, pk_mul, ua_ua, ua_s, ua_n, not_false_eq_true, Nat.reduceEqDiff]
    by_cases hc : k < N
    · rw [if_pos hc] at hX
      rw [if_neg (fun z => absurd ((nI_l1 (by omega) (by omega)).mp z) (by omega)), if_neg (fun z => absurd ((nI_l1 (by omega) (by omega)).mp z) (by omega))]
      cases b with
      | false =>
        rw [Bool.false_and] at hX
        rw [if_pos (show bI false = nI 0 by decide)]
        exact ih (k + 1) false (by omega) (by omega) hX
      | true =>
        rw [Bool.true_and] at hX
        rw [if_neg (show ¬ bI true = nI 0 by decide)]
        refine ⟨nI_ne0 (by omega) (by have e : (2:Nat)^31 = 2147483648 := rfl; omega), ?_⟩
        rw [pk_rem (by have e : (2:Nat)^31 = 2147483648 := rfl; omega) (by omega) (by have e : (2:Nat)^31 = 2147483648 := rfl; omega)]
        have hm : N % k < 2147483648 := by have := Nat.mod_lt N (show k > 0 by omega); omega
        by_cases hc2 : N % k = 0
        · rw [if_pos (by rw [hc2])]
          rw [show decide (N % k ≠ 0) = false by simp [hc2]] at hX
          exact ih (k + 1) false (by omega) (by omega) hX
        · rw [if_neg (fun z => hc2 ((nI_e hm (by omega)).mp z))]
          rw [show decide (N % k ≠ 0) = true by simp [hc2]] at hX
          exact ih (k + 1) true (by omega) (by omega) hX
    · rw [if_neg hc] at hX
      rw [if_pos ((nI_l1 (by omega) (by omega)).mpr (by omega))]
      exact ⟨hb, hX⟩
theorem r_isPrime {x : Int32} (hX : X (some (.int (if isPr x then nI 1 else nI 0))) h) : ex_W 126 0 [.int x, oU, oU] [] h X := by
  simp only [s126_0, s126_1, s126_2, s126_4, s126_7, s126_8, s126_9, s126_11, s126_12, s126_15, s126_16, s126_18, s126_21, s126_22, s126_25, s126_26, s126_27, s126_28, s126_31, s126_32, s126_35, s126_36, s126_37, s126_40, s126_43, s126_44, mis, mg1, mg2, mg3, mg4, mg5, mg6, mg7, mg8, mg9, mg10, mg11, mg12, mg13, mg14, mg15, mg16, mg17, mg18, mg19, mg20, mg21, mg22, ms1, ms2, ms3, ms4, ms5, ms6, ms7, ms8, ms9, ms10, ms11, ms12, ms13, ms14, ms15, ms16, ms17, ms18, ms19, ms20, ms21, ms22, mf0, mf1, mf2, mf3, mf4, mf5, mf6, mf7, mf8, mf9, mf10, mf11, mf12, mf13, mf14, mf15, mf16, mf17, mf18, mf19, mf20, mf21, mf22, mf23, mf24, mf25, mf26, mp4, mp7, mp22, mp25, mp26, mq_0, al_I, as_I, zl_Z, zs_0, zs_1, Nat.reduceAdd, Nat.reduceLeDiff, Nat.zero_le, cat_0, cat_i, cat_r, opt_n, opt_s, true_and, nI_add, pk_mul, ua_ua, ua_s, ua_n, not_false_eq_true, Nat.reduceEqDiff, r_inW]
  by_cases hx : isW 2 101 x
  · obtain ⟨q1, q2, q3⟩ := isW_e (by decide) (by decide) hx
    rw [if_pos hx, ← q3]
    refine l_pr q2 9 2 true (by decide) (by decide) ?_
    have hk := allN_of prL_k (show ix x < 102 by omega)
    rw [Bool.or_eq_true, decide_eq_true_eq, decide_eq_true_eq] at hk
    rw [hk.resolve_left (by omega)]
    by_cases hp : prT (ix x) = true
    · rw [if_pos ⟨hx, hp⟩] at hX
      rw [hp]
      exact hX
    · rw [if_neg (fun z => hp z.2)] at hX
      rw [Bool.not_eq_true] at hp
      rw [hp]
      exact hX
  · rw [if_neg hx]
    rw [if_neg (fun z => hx z.1)] at hX
    exact l_pr0 9 2 (by decide) (by decide) hX
theorem r_isNumber {x : Int32} (hp : 1 ≤ p) (h1 : A 1 1 = nI p) : ex_W 127 0 [.ref M, .int x] [] (mdl M A g) X ↔ X (some (.int (if isW 0 (p - 1) x then nI 1 else nI 0))) (mdl M A g) := by
  simp only [s127_0, s127_1, s127_2, s127_3, s127_6, s127_7, s127_8, s127_9, s127_10, s127_13, mis, mg1, mg2, mg3, mg4, mg5, mg6, mg7, mg8, mg9, mg10, mg11, mg12, mg13, mg14, mg15, mg16, mg17, mg18, mg19, mg20, mg21, mg22, ms1, ms2, ms3, ms4, ms5, ms6, ms7, ms8, ms9, ms10, ms11, ms12, ms13, ms14, ms15, ms16, ms17, ms18, ms19, ms20, ms21, ms22, mf0, mf1, mf2, mf3, mf4, mf5, mf6, mf7, mf8, mf9, mf10, mf11, mf12, mf13, mf14, mf15, mf16, mf17, mf18, mf19, mf20, mf21, mf22, mf23, mf24, mf25, mf26, mp4, mp7, mp22, mp25, mp26, mq_0, al_I, as_I, zl_Z, zs_0, zs_1, Nat.reduceAdd, Nat.reduceLeDiff, Nat.zero_le, cat_0, cat_i, cat_r, opt_n, opt_s, true_and, nI_add, pk_mul, ua_ua, ua_s, ua_n, not_false_eq_true, Nat.reduceEqDiff, xi_n (show 1 < 213 by omega) (show 213 < 2147483648 by decide), h1, pk_sub hp, r_inW]
  constructor
  · exact fun z => z.2
  · refine fun z => ⟨?_, z⟩
    split
    · exact Or.inr rfl
    · exact Or.inl rfl
theorem r_by {x : Int32} (hp : 2 ≤ p) (hp2 : p ≤ 101) (h1 : A 1 1 = nI p) : ex_W 128 0 [.ref M, .int x, oU] [] (mdl M A g) X ↔ X (some (.int (nF (nI p) x))) (mdl M A g) := by
  simp only [s128_0, s128_1, s128_2, s128_5, s128_6, s128_7, s128_8, s128_9, s128_10, s128_13, s128_14, s128_15, s128_18, s128_19, s128_20, s128_21, s128_24, s128_25, mis, mg1, mg2, mg3, mg4, mg5, mg6, mg7, mg8, mg9, mg10, mg11, mg12, mg13, mg14, mg15, mg16, mg17, mg18, mg19, mg20, mg21, mg22, ms1, ms2, ms3, ms4, ms5, ms6, ms7, ms8, ms9, ms10, ms11, ms12, ms13, ms14, ms15, ms16, ms17, ms18, ms19, ms20, ms21, ms22, mf0, mf1, mf2, mf3, mf4, mf5, mf6, mf7, mf8, mf9, mf10, mf11, mf12, mf13, mf14, mf15, mf16, mf17, mf18, mf19, mf20, mf21, mf22, mf23, mf24, mf25, mf26, mp4, mp7, mp22, mp25, mp26, mq_0, al_I, as_I, zl_Z, zs_0, zs_1, Nat.reduceAdd, Nat.reduceLeDiff, Nat.zero_le, cat_0, cat_i, cat_r, opt_n, opt_s, true_and, nI_add, pk_mul, ua_ua, ua_s, ua_n, not_false_eq_true, Nat.reduceEqDiff, xi_n (show 1 < 213 by omega) (show 213 < 2147483648 by decide), h1]
  unfold nF
  rw [if_pos ((nI_l1 (by omega) (by omega)).mpr (by omega))]
  constructor
  · intro z
    obtain ⟨_, z⟩ := z
    split at z
    · rename_i hc
      rw [if_pos hc]
      exact z
    · rename_i hc
      rw [if_neg hc]
      exact z
  · refine fun z => ⟨nI_ne0 (by omega) (by have e : (2:Nat)^31 = 2147483648 := rfl; omega), ?_⟩
    split
    · rename_i hc
      rw [if_pos hc] at z
      exact z
    · rename_i hc
      rw [if_neg hc] at z
      exact z
theorem l_lt (hp : 2 ≤ p) (hp2 : p ≤ 101) (h1 : A 1 1 = nI p) (h2 : A 1 2 = nI lo) (hlo : lo < p) {N : Nat} (hN : N ≤ 100) : ∀ (n k : Nat), n + k = N → X (some (.int (nI (lo ^ N % p)))) (mdl M A g) → ex_W 129 8 [.ref M, .int (nI N), .int (nI (lo ^ k % p)), .int (nI k)] [] (mdl M A g) X := by
  intro n
  induction n with
  | zero =>
    intro k hn hX
    obtain rfl : k = N := by omega
    rw [s129_8]
    simp only [s129_0, s129_1, s129_2, s129_5, s129_6, s129_7, s129_9, s129_10, s129_13, s129_14, s129_15, s129_16, s129_19, s129_20, s129_21, s129_22, s129_25, s129_26, s129_29, s129_32, s129_33, mis, mg1, mg2, mg3, mg4, mg5, mg6, mg7, mg8, mg9, mg10, mg11, mg12, mg13, mg14, mg15, mg16, mg17, mg18, mg19, mg20, mg21, mg22, ms1, ms2, ms3, ms4, ms5, ms6, ms7, ms8, ms9, ms10, ms11, ms12, ms13, ms14, ms15, ms16, ms17, ms18, ms19, ms20, ms21, ms22, mf0, mf1, mf2, mf3, mf4, mf5, mf6, mf7, mf8, mf9, mf10, mf11, mf12, mf13, mf14, mf15, mf16, mf17, mf18, mf19, mf20, mf21, mf22, mf23, mf24, mf25, mf26, mp4, mp7, mp22, mp25, mp26, mq_0, al_I, as_I, zl_Z, zs_0, zs_1, Nat.reduceAdd, Nat.reduceLeDiff, Nat.zero_le, cat_0, cat_i, cat_r, opt_n, opt_s, true_and, nI_add, pk_mul, ua_ua, ua_s, ua_n, not_false_eq_true, Nat.reduceEqDiff]
    rw [if_pos ((nI_l1 (by omega) (by omega)).mpr (by omega))]
    exact hX
  | succ n ih =>
    intro k hn hX
    have hm := Nat.mod_lt (lo ^ k) (show p > 0 by omega)
    have hmm : lo ^ k % p * lo < 2147483648 := by
      have : lo ^ k % p * lo ≤ 101 * 101 := Nat.mul_le_mul (by omega) (by omega)
      omega
    rw [s129_8]
    simp only [s129_0, s129_1, s129_2, s129_5, s129_6, s129_7, s129_9, s129_10, s129_13, s129_14, s129_15, s129_16, s129_19, s129_20, s129_21, s129_22, s129_25, s129_26, s129_29, s129_32, s129_33, mis, mg1, mg2, mg3, mg4, mg5, mg6, mg7, mg8, mg9, mg10, mg11, mg12, mg13, mg14, mg15, mg16, mg17, mg18, mg19, mg20, mg21, mg22, ms1, ms2, ms3, ms4, ms5, ms6, ms7, ms8, ms9, ms10, ms11, ms12, ms13, ms14, ms15, ms16, ms17, ms18, ms19, ms20, ms21, ms22, mf0, mf1, mf2, mf3, mf4, mf5, mf6, mf7, mf8, mf9, mf10, mf11, mf12, mf13, mf14, mf15, mf16, mf17, mf18, mf19, mf20, mf21, mf22, mf23, mf24, mf25, mf26, mp4, mp7, mp22, mp25, mp26, mq_0, al_I, as_I, zl_Z, zs_0, zs_1, Nat.reduceAdd, Nat.reduceLeDiff, Nat.zero_le, cat_0, cat_i, cat_r, opt_n, opt_s, true_and, nI_add, pk_mul, ua_ua, ua_s, ua_n, not_false_eq_true, Nat.reduceEqDiff, xi_n (show 2 < 213 by omega) (show 213 < 2147483648 by decide), h2, r_by hp hp2 h1, nF_n hp (show p < 32768 by omega) hmm]
    rw [if_neg (fun z => absurd ((nI_l1 (by omega) (by omega)).mp z) (by omega))]
    have := ih (k + 1) (by omega) hX
    rw [show lo ^ (k + 1) % p = lo ^ k % p * lo % p by rw [Nat.pow_succ, Nat.mod_mul_mod]] at this
    exact this
theorem r_loopTimes (hp : 2 ≤ p) (hp2 : p ≤ 101) (h1 : A 1 1 = nI p) (h2 : A 1 2 = nI lo) (hlo : lo < p) {N : Nat} (hN : N ≤ 100) (hX : X (some (.int (nI (lo ^ N % p)))) (mdl M A g)) : ex_W 129 0 [.ref M, .int (nI N), oU, oU] [] (mdl M A g) X := by
  simp only [s129_0, s129_1, s129_2, s129_5, s129_6, s129_7, s129_9, s129_10, s129_13, s129_14, s129_15, s129_16, s129_19, s129_20, s129_21, s129_22, s129_25, s129_26, s129_29, s129_32, s129_33, mis, mg1, mg2, mg3, mg4, mg5, mg6, mg7, mg8, mg9, mg10, mg11, mg12, mg13, mg14, mg15, mg16, mg17, mg18, mg19, mg20, mg21, mg22, ms1, ms2, ms3, ms4, ms5, ms6, ms7, ms8, ms9, ms10, ms11, ms12, ms13, ms14, ms15, ms16, ms17, ms18, ms19, ms20, ms21, ms22, mf0, mf1, mf2, mf3, mf4, mf5, mf6, mf7, mf8, mf9, mf10, mf11, mf12, mf13, mf14, mf15, mf16, mf17, mf18, mf19, mf20, mf21, mf22, mf23, mf24, mf25, mf26, mp4, mp7, mp22, mp25, mp26, mq_0, al_I, as_I, zl_Z, zs_0, zs_1, Nat.reduceAdd, Nat.reduceLeDiff, Nat.zero_le, cat_0, cat_i, cat_r, opt_n, opt_s, true_and, nI_add, pk_mul, ua_ua, ua_s, ua_n, not_false_eq_true, Nat.reduceEqDiff, r_by hp hp2 h1, nF_n hp (show p < 32768 by omega) (show 1 < 2147483648 by decide)]
  exact l_lt hp hp2 h1 h2 hlo hN N 0 (by omega) hX
def isPL (x y : Int32) : Prop := isPr x ∧ isW 0 (ix x - 1) y
theorem r_prime_no {x y : Int32} (hc : ¬ isPL x y) (hX : X (some (.int (-2))) (mdl M A g)) : ex_W 130 0 [.ref M, .int x, .int y, oU] [] (mdl M A g) X := by
  simp only [s130_0, s130_1, s130_4, s130_7, s130_8, s130_9, s130_10, s130_11, s130_12, s130_15, s130_18, s130_20, s130_21, s130_22, s130_25, s130_26, s130_27, s130_28, s130_29, s130_32, s130_33, s130_34, s130_35, s130_36, s130_39, s130_40, s130_41, s130_42, s130_43, s130_46, s130_47, mis, mg1, mg2, mg3, mg4, mg5, mg6, mg7, mg8, mg9, mg10, mg11, mg12, mg13, mg14, mg15, mg16, mg17, mg18, mg19, mg20, mg21, mg22, ms1, ms2, ms3, ms4, ms5, ms6, ms7, ms8, ms9, ms10, ms11, ms12, ms13, ms14, ms15, ms16, ms17, ms18, ms19, ms20, ms21, ms22, mf0, mf1, mf2, mf3, mf4, mf5, mf6, mf7, mf8, mf9, mf10, mf11, mf12, mf13, mf14, mf15, mf16, mf17, mf18, mf19, mf20, mf21, mf22, mf23, mf24, mf25, mf26, mp4, mp7, mp22, mp25, mp26, mq_0, al_I, as_I, zl_Z, zs_0, zs_1, Nat.reduceAdd, Nat.reduceLeDiff, Nat.zero_le, cat_0, cat_i, cat_r, opt_n, opt_s, true_and, nI_add, pk_mul, ua_ua, ua_s, ua_n, not_false_eq_true, Nat.reduceEqDiff]
  refine r_isPrime ?_
  by_cases hx : isPr x
  · obtain ⟨q1, q2, q3⟩ := isW_e (by decide) (by decide) hx.1
    have hy : ¬ isW 0 (ix x - 1) y := fun z => hc ⟨hx, z⟩
    rw [if_pos hx, ← q3]
    simp only [s130_0, s130_1, s130_4, s130_7, s130_8, s130_9, s130_10, s130_11, s130_12, s130_15, s130_18, s130_20, s130_21, s130_22, s130_25, s130_26, s130_27, s130_28, s130_29, s130_32, s130_33, s130_34, s130_35, s130_36, s130_39, s130_40, s130_41, s130_42, s130_43, s130_46, s130_47, mis, mg1, mg2, mg3, mg4, mg5, mg6, mg7, mg8, mg9, mg10, mg11, mg12, mg13, mg14, mg15, mg16, mg17, mg18, mg19, mg20, mg21, mg22, ms1, ms2, ms3, ms4, ms5, ms6, ms7, ms8, ms9, ms10, ms11, ms12, ms13, ms14, ms15, ms16, ms17, ms18, ms19, ms20, ms21, ms22, mf0, mf1, mf2, mf3, mf4, mf5, mf6, mf7, mf8, mf9, mf10, mf11, mf12, mf13, mf14, mf15, mf16, mf17, mf18, mf19, mf20, mf21, mf22, mf23, mf24, mf25, mf26, mp4, mp7, mp22, mp25, mp26, mq_0, al_I, as_I, zl_Z, zs_0, zs_1, Nat.reduceAdd, Nat.reduceLeDiff, Nat.zero_le, cat_0, cat_i, cat_r, opt_n, opt_s, true_and, nI_add, pk_mul, ua_ua, ua_s, ua_n, not_false_eq_true, Nat.reduceEqDiff, i10, i10n, not_true_eq_false, if_false, if_true, pk_sub (show 1 ≤ ix x by omega), r_inW, if_neg hy]
    exact hX
  · rw [if_neg hx]
    simp only [s130_0, s130_1, s130_4, s130_7, s130_8, s130_9, s130_10, s130_11, s130_12, s130_15, s130_18, s130_20, s130_21, s130_22, s130_25, s130_26, s130_27, s130_28, s130_29, s130_32, s130_33, s130_34, s130_35, s130_36, s130_39, s130_40, s130_41, s130_42, s130_43, s130_46, s130_47, mis, mg1, mg2, mg3, mg4, mg5, mg6, mg7, mg8, mg9, mg10, mg11, mg12, mg13, mg14, mg15, mg16, mg17, mg18, mg19, mg20, mg21, mg22, ms1, ms2, ms3, ms4, ms5, ms6, ms7, ms8, ms9, ms10, ms11, ms12, ms13, ms14, ms15, ms16, ms17, ms18, ms19, ms20, ms21, ms22, mf0, mf1, mf2, mf3, mf4, mf5, mf6, mf7, mf8, mf9, mf10, mf11, mf12, mf13, mf14, mf15, mf16, mf17, mf18, mf19, mf20, mf21, mf22, mf23, mf24, mf25, mf26, mp4, mp7, mp22, mp25, mp26, mq_0, al_I, as_I, zl_Z, zs_0, zs_1, Nat.reduceAdd, Nat.reduceLeDiff, Nat.zero_le, cat_0, cat_i, cat_r, opt_n, opt_s, true_and, nI_add, pk_mul, ua_ua, ua_s, ua_n, not_false_eq_true, Nat.reduceEqDiff, i10, i10n, not_true_eq_false, if_false, if_true]
    exact hX
theorem r_prime {x y : Int32} (hc : isPL x y) (hX : X (some (.int (A 1 1))) (mdl M (ua A 1 (clrF (upd (upd (A 1) 1 x) 2 y) 210)) g)) : ex_W 130 0 [.ref M, .int x, .int y, oU] [] (mdl M A g) X := by
  obtain ⟨hx, hy⟩ := hc
  obtain ⟨q1, q2, q3⟩ := isW_e (by decide) (by decide) hx.1
  simp only [s130_0, s130_1, s130_4, s130_7, s130_8, s130_9, s130_10, s130_11, s130_12, s130_15, s130_18, s130_20, s130_21, s130_22, s130_25, s130_26, s130_27, s130_28, s130_29, s130_32, s130_33, s130_34, s130_35, s130_36, s130_39, s130_40, s130_41, s130_42, s130_43, s130_46, s130_47, mis, mg1, mg2, mg3, mg4, mg5, mg6, mg7, mg8, mg9, mg10, mg11, mg12, mg13, mg14, mg15, mg16, mg17, mg18, mg19, mg20, mg21, mg22, ms1, ms2, ms3, ms4, ms5, ms6, ms7, ms8, ms9, ms10, ms11, ms12, ms13, ms14, ms15, ms16, ms17, ms18, ms19, ms20, ms21, ms22, mf0, mf1, mf2, mf3, mf4, mf5, mf6, mf7, mf8, mf9, mf10, mf11, mf12, mf13, mf14, mf15, mf16, mf17, mf18, mf19, mf20, mf21, mf22, mf23, mf24, mf25, mf26, mp4, mp7, mp22, mp25, mp26, mq_0, al_I, as_I, zl_Z, zs_0, zs_1, Nat.reduceAdd, Nat.reduceLeDiff, Nat.zero_le, cat_0, cat_i, cat_r, opt_n, opt_s, true_and, nI_add, pk_mul, ua_ua, ua_s, ua_n, not_false_eq_true, Nat.reduceEqDiff]
  refine r_isPrime ?_
  rw [if_pos hx]
  rw [show nI 1 = nI 1 from rfl]
  have hs : x - nI 1 = nI (ix x - 1) := by
    have := pk_sub (show 1 ≤ ix x by omega)
    rw [q3] at this
    exact this
  simp only [s130_0, s130_1, s130_4, s130_7, s130_8, s130_9, s130_10, s130_11, s130_12, s130_15, s130_18, s130_20, s130_21, s130_22, s130_25, s130_26, s130_27, s130_28, s130_29, s130_32, s130_33, s130_34, s130_35, s130_36, s130_39, s130_40, s130_41, s130_42, s130_43, s130_46, s130_47, mis, mg1, mg2, mg3, mg4, mg5, mg6, mg7, mg8, mg9, mg10, mg11, mg12, mg13, mg14, mg15, mg16, mg17, mg18, mg19, mg20, mg21, mg22, ms1, ms2, ms3, ms4, ms5, ms6, ms7, ms8, ms9, ms10, ms11, ms12, ms13, ms14, ms15, ms16, ms17, ms18, ms19, ms20, ms21, ms22, mf0, mf1, mf2, mf3, mf4, mf5, mf6, mf7, mf8, mf9, mf10, mf11, mf12, mf13, mf14, mf15, mf16, mf17, mf18, mf19, mf20, mf21, mf22, mf23, mf24, mf25, mf26, mp4, mp7, mp22, mp25, mp26, mq_0, al_I, as_I, zl_Z, zs_0, zs_1, Nat.reduceAdd, Nat.reduceLeDiff, Nat.zero_le, cat_0, cat_i, cat_r, opt_n, opt_s, true_and, nI_add, pk_mul, ua_ua, ua_s, ua_n, not_false_eq_true, Nat.reduceEqDiff, i10, i10n, not_true_eq_false, if_false, if_true, hs, r_inW, if_pos hy, xi_n (show 1 < 213 by omega) (show 213 < 2147483648 by decide), xi_n (show 2 < 213 by omega) (show 213 < 2147483648 by decide)]
  refine r_clearSums ?_
  simp only [s130_0, s130_1, s130_4, s130_7, s130_8, s130_9, s130_10, s130_11, s130_12, s130_15, s130_18, s130_20, s130_21, s130_22, s130_25, s130_26, s130_27, s130_28, s130_29, s130_32, s130_33, s130_34, s130_35, s130_36, s130_39, s130_40, s130_41, s130_42, s130_43, s130_46, s130_47, mis, mg1, mg2, mg3, mg4, mg5, mg6, mg7, mg8, mg9, mg10, mg11, mg12, mg13, mg14, mg15, mg16, mg17, mg18, mg19, mg20, mg21, mg22, ms1, ms2, ms3, ms4, ms5, ms6, ms7, ms8, ms9, ms10, ms11, ms12, ms13, ms14, ms15, ms16, ms17, ms18, ms19, ms20, ms21, ms22, mf0, mf1, mf2, mf3, mf4, mf5, mf6, mf7, mf8, mf9, mf10, mf11, mf12, mf13, mf14, mf15, mf16, mf17, mf18, mf19, mf20, mf21, mf22, mf23, mf24, mf25, mf26, mp4, mp7, mp22, mp25, mp26, mq_0, al_I, as_I, zl_Z, zs_0, zs_1, Nat.reduceAdd, Nat.reduceLeDiff, Nat.zero_le, cat_0, cat_i, cat_r, opt_n, opt_s, true_and, nI_add, pk_mul, ua_ua, ua_s, ua_n, not_false_eq_true, Nat.reduceEqDiff]
  exact hX
theorem r_place {s d : Int32} {m : Nat} : ex_W 131 0 [.ref m, .int s, .int d] [] h X ↔ X (some (.int (nI 3 + nI 42 * s + d))) h := by
  simp only [s131_0, s131_1, s131_3, s131_4, s131_5, s131_6, s131_7, s131_8]
def isPut (v p : Nat) (x y z : Int32) : Int32 := if isW 0 4 x ∧ isW 0 (tC v - 1) y then (if isW 0 (p - 1) z then nI 1 else -2) else -1
theorem r_put_no {x y z : Int32} (h1 : 1 ≤ v) (h2 : v ≤ 5) (hp : 1 ≤ p) (hp1 : A 1 1 = nI p) (hT : mTab v A) (hc : ¬ isPut v p x y z = nI 1) (hX : X (some (.int (isPut v p x y z))) (mdl M A g)) : ex_W 132 0 [.ref M, .int x, .int y, .int z, oU] [] (mdl M A g) X := by
  unfold isPut at hX hc
  by_cases hx : isW 0 4 x
  · by_cases hy : isW 0 (tC v - 1) y
    · rw [if_pos ⟨hx, hy⟩] at hX hc
      by_cases hz : isW 0 (p - 1) z
      · rw [if_pos hz] at hc
        exact absurd rfl hc
      · rw [if_neg hz] at hX
        simp only [s132_0, s132_1, s132_4, s132_7, s132_8, s132_9, s132_12, s132_15, s132_16, s132_17, s132_18, s132_19, s132_22, s132_25, s132_27, s132_28, s132_29, s132_32, s132_33, s132_34, s132_35, s132_38, s132_39, s132_41, s132_42, s132_45, s132_46, s132_47, s132_48, s132_51, s132_52, s132_53, s132_55, mis, mg1, mg2, mg3, mg4, mg5, mg6, mg7, mg8, mg9, mg10, mg11, mg12, mg13, mg14, mg15, mg16, mg17, mg18, mg19, mg20, mg21, mg22, ms1, ms2, ms3, ms4, ms5, ms6, ms7, ms8, ms9, ms10, ms11, ms12, ms13, ms14, ms15, ms16, ms17, ms18, ms19, ms20, ms21, ms22, mf0, mf1, mf2, mf3, mf4, mf5, mf6, mf7, mf8, mf9, mf10, mf11, mf12, mf13, mf14, mf15, mf16, mf17, mf18, mf19, mf20, mf21, mf22, mf23, mf24, mf25, mf26, mp4, mp7, mp22, mp25, mp26, mq_0, al_I, as_I, zl_Z, zs_0, zs_1, Nat.reduceAdd, Nat.reduceLeDiff, Nat.zero_le, cat_0, cat_i, cat_r, opt_n, opt_s, true_and, nI_add, pk_mul, ua_ua, ua_s, ua_n, not_false_eq_true, Nat.reduceEqDiff, r_isS, r_isD h1 h2 hT, r_isNumber hp hp1, if_pos hx, if_pos hy, if_neg hz, i10, i10n, not_true_eq_false, if_false, if_true]
        exact hX
    · rw [if_neg (fun q => hy q.2)] at hX
      simp only [s132_0, s132_1, s132_4, s132_7, s132_8, s132_9, s132_12, s132_15, s132_16, s132_17, s132_18, s132_19, s132_22, s132_25, s132_27, s132_28, s132_29, s132_32, s132_33, s132_34, s132_35, s132_38, s132_39, s132_41, s132_42, s132_45, s132_46, s132_47, s132_48, s132_51, s132_52, s132_53, s132_55, mis, mg1, mg2, mg3, mg4, mg5, mg6, mg7, mg8, mg9, mg10, mg11, mg12, mg13, mg14, mg15, mg16, mg17, mg18, mg19, mg20, mg21, mg22, ms1, ms2, ms3, ms4, ms5, ms6, ms7, ms8, ms9, ms10, ms11, ms12, ms13, ms14, ms15, ms16, ms17, ms18, ms19, ms20, ms21, ms22, mf0, mf1, mf2, mf3, mf4, mf5, mf6, mf7, mf8, mf9, mf10, mf11, mf12, mf13, mf14, mf15, mf16, mf17, mf18, mf19, mf20, mf21, mf22, mf23, mf24, mf25, mf26, mp4, mp7, mp22, mp25, mp26, mq_0, al_I, as_I, zl_Z, zs_0, zs_1, Nat.reduceAdd, Nat.reduceLeDiff, Nat.zero_le, cat_0, cat_i, cat_r, opt_n, opt_s, true_and, nI_add, pk_mul, ua_ua, ua_s, ua_n, not_false_eq_true, Nat.reduceEqDiff, r_isS, r_isD h1 h2 hT, if_pos hx, if_neg hy, i10, i10n, not_true_eq_false, if_false, if_true]
      exact hX
  · rw [if_neg (fun q => hx q.1)] at hX
    simp only [s132_0, s132_1, s132_4, s132_7, s132_8, s132_9, s132_12, s132_15, s132_16, s132_17, s132_18, s132_19, s132_22, s132_25, s132_27, s132_28, s132_29, s132_32, s132_33, s132_34, s132_35, s132_38, s132_39, s132_41, s132_42, s132_45, s132_46, s132_47, s132_48, s132_51, s132_52, s132_53, s132_55, mis, mg1, mg2, mg3, mg4, mg5, mg6, mg7, mg8, mg9, mg10, mg11, mg12, mg13, mg14, mg15, mg16, mg17, mg18, mg19, mg20, mg21, mg22, ms1, ms2, ms3, ms4, ms5, ms6, ms7, ms8, ms9, ms10, ms11, ms12, ms13, ms14, ms15, ms16, ms17, ms18, ms19, ms20, ms21, ms22, mf0, mf1, mf2, mf3, mf4, mf5, mf6, mf7, mf8, mf9, mf10, mf11, mf12, mf13, mf14, mf15, mf16, mf17, mf18, mf19, mf20, mf21, mf22, mf23, mf24, mf25, mf26, mp4, mp7, mp22, mp25, mp26, mq_0, al_I, as_I, zl_Z, zs_0, zs_1, Nat.reduceAdd, Nat.reduceLeDiff, Nat.zero_le, cat_0, cat_i, cat_r, opt_n, opt_s, true_and, nI_add, pk_mul, ua_ua, ua_s, ua_n, not_false_eq_true, Nat.reduceEqDiff, r_isS, if_neg hx, i10, i10n, not_true_eq_false, if_false, if_true]
    exact hX
theorem r_put {x y z : Int32} (h1 : 1 ≤ v) (h2 : v ≤ 5) (hp : 1 ≤ p) (hp1 : A 1 1 = nI p) (hT : mTab v A) (hc : isPut v p x y z = nI 1) (hX : X (some (.int (A 1 (3 + 42 * ix x + ix y)))) (mdl M (ua A 1 (upd (A 1) (3 + 42 * ix x + ix y) z)) g)) : ex_W 132 0 [.ref M, .int x, .int y, .int z, oU] [] (mdl M A g) X := by
  have hC := tC_le h1 h2
  unfold isPut at hc
  by_cases hxy : isW 0 4 x ∧ isW 0 (tC v - 1) y
  · obtain ⟨hx, hy⟩ := hxy
    rw [if_pos ⟨hx, hy⟩] at hc
    by_cases hz : isW 0 (p - 1) z
    · obtain ⟨_, q2, q3⟩ := isW_e (by decide) (by decide) hx
      obtain ⟨_, p2, p3⟩ := isW_e (by decide) (by omega) hy
      simp only [s132_0, s132_1, s132_4, s132_7, s132_8, s132_9, s132_12, s132_15, s132_16, s132_17, s132_18, s132_19, s132_22, s132_25, s132_27, s132_28, s132_29, s132_32, s132_33, s132_34, s132_35, s132_38, s132_39, s132_41, s132_42, s132_45, s132_46, s132_47, s132_48, s132_51, s132_52, s132_53, s132_55, mis, mg1, mg2, mg3, mg4, mg5, mg6, mg7, mg8, mg9, mg10, mg11, mg12, mg13, mg14, mg15, mg16, mg17, mg18, mg19, mg20, mg21, mg22, ms1, ms2, ms3, ms4, ms5, ms6, ms7, ms8, ms9, ms10, ms11, ms12, ms13, ms14, ms15, ms16, ms17, ms18, ms19, ms20, ms21, ms22, mf0, mf1, mf2, mf3, mf4, mf5, mf6, mf7, mf8, mf9, mf10, mf11, mf12, mf13, mf14, mf15, mf16, mf17, mf18, mf19, mf20, mf21, mf22, mf23, mf24, mf25, mf26, mp4, mp7, mp22, mp25, mp26, mq_0, al_I, as_I, zl_Z, zs_0, zs_1, Nat.reduceAdd, Nat.reduceLeDiff, Nat.zero_le, cat_0, cat_i, cat_r, opt_n, opt_s, true_and, nI_add, pk_mul, ua_ua, ua_s, ua_n, not_false_eq_true, Nat.reduceEqDiff, r_isS, r_isD h1 h2 hT, r_isNumber hp hp1, if_pos hx, if_pos hy, if_pos hz, i10, i10n, not_true_eq_false, if_false, if_true]
      rw [← q3, ← p3]
      simp only [r_place, s132_0, s132_1, s132_4, s132_7, s132_8, s132_9, s132_12, s132_15, s132_16, s132_17, s132_18, s132_19, s132_22, s132_25, s132_27, s132_28, s132_29, s132_32, s132_33, s132_34, s132_35, s132_38, s132_39, s132_41, s132_42, s132_45, s132_46, s132_47, s132_48, s132_51, s132_52, s132_53, s132_55, mis, mg1, mg2, mg3, mg4, mg5, mg6, mg7, mg8, mg9, mg10, mg11, mg12, mg13, mg14, mg15, mg16, mg17, mg18, mg19, mg20, mg21, mg22, ms1, ms2, ms3, ms4, ms5, ms6, ms7, ms8, ms9, ms10, ms11, ms12, ms13, ms14, ms15, ms16, ms17, ms18, ms19, ms20, ms21, ms22, mf0, mf1, mf2, mf3, mf4, mf5, mf6, mf7, mf8, mf9, mf10, mf11, mf12, mf13, mf14, mf15, mf16, mf17, mf18, mf19, mf20, mf21, mf22, mf23, mf24, mf25, mf26, mp4, mp7, mp22, mp25, mp26, mq_0, al_I, as_I, zl_Z, zs_0, zs_1, Nat.reduceAdd, Nat.reduceLeDiff, Nat.zero_le, cat_0, cat_i, cat_r, opt_n, opt_s, true_and, nI_add, pk_mul, ua_ua, ua_s, ua_n, not_false_eq_true, Nat.reduceEqDiff, xi_n (show 3 + 42 * ix x + ix y < 213 by omega) (show 213 < 2147483648 by decide)]
      exact hX
    · rw [if_neg hz] at hc
      exact absurd hc (by decide)
  · rw [if_neg hxy] at hc
    exact absurd hc (by decide)
def aAt (v : Nat) (f : Nat → Int32) (x y : Int32) : Int32 := if isW 0 4 x ∧ isW 0 (tC v - 1) y then f (3 + 42 * ix x + ix y) else -1
theorem r_at {x y : Int32} (h1 : 1 ≤ v) (h2 : v ≤ 5) (hT : mTab v A) (hX : X (some (.int (aAt v (A 1) x y))) (mdl M A g)) : ex_W 133 0 [.ref M, .int x, .int y] [] (mdl M A g) X := by
  have hC := tC_le h1 h2
  unfold aAt at hX
  by_cases hx : isW 0 4 x
  · by_cases hy : isW 0 (tC v - 1) y
    · rw [if_pos ⟨hx, hy⟩] at hX
      obtain ⟨_, q2, q3⟩ := isW_e (by decide) (by decide) hx
      obtain ⟨_, p2, p3⟩ := isW_e (by decide) (by omega) hy
      simp only [s133_0, s133_1, s133_4, s133_7, s133_8, s133_9, s133_12, s133_15, s133_16, s133_19, s133_20, s133_21, s133_22, s133_25, s133_26, s133_29, s133_30, mis, mg1, mg2, mg3, mg4, mg5, mg6, mg7, mg8, mg9, mg10, mg11, mg12, mg13, mg14, mg15, mg16, mg17, mg18, mg19, mg20, mg21, mg22, ms1, ms2, ms3, ms4, ms5, ms6, ms7, ms8, ms9, ms10, ms11, ms12, ms13, ms14, ms15, ms16, ms17, ms18, ms19, ms20, ms21, ms22, mf0, mf1, mf2, mf3, mf4, mf5, mf6, mf7, mf8, mf9, mf10, mf11, mf12, mf13, mf14, mf15, mf16, mf17, mf18, mf19, mf20, mf21, mf22, mf23, mf24, mf25, mf26, mp4, mp7, mp22, mp25, mp26, mq_0, al_I, as_I, zl_Z, zs_0, zs_1, Nat.reduceAdd, Nat.reduceLeDiff, Nat.zero_le, cat_0, cat_i, cat_r, opt_n, opt_s, true_and, nI_add, pk_mul, ua_ua, ua_s, ua_n, not_false_eq_true, Nat.reduceEqDiff, r_isS, r_isD h1 h2 hT, if_pos hx, if_pos hy, i10, i10n, not_true_eq_false, if_false, if_true]
      rw [← q3, ← p3]
      simp only [r_place, s133_0, s133_1, s133_4, s133_7, s133_8, s133_9, s133_12, s133_15, s133_16, s133_19, s133_20, s133_21, s133_22, s133_25, s133_26, s133_29, s133_30, mis, mg1, mg2, mg3, mg4, mg5, mg6, mg7, mg8, mg9, mg10, mg11, mg12, mg13, mg14, mg15, mg16, mg17, mg18, mg19, mg20, mg21, mg22, ms1, ms2, ms3, ms4, ms5, ms6, ms7, ms8, ms9, ms10, ms11, ms12, ms13, ms14, ms15, ms16, ms17, ms18, ms19, ms20, ms21, ms22, mf0, mf1, mf2, mf3, mf4, mf5, mf6, mf7, mf8, mf9, mf10, mf11, mf12, mf13, mf14, mf15, mf16, mf17, mf18, mf19, mf20, mf21, mf22, mf23, mf24, mf25, mf26, mp4, mp7, mp22, mp25, mp26, mq_0, al_I, as_I, zl_Z, zs_0, zs_1, Nat.reduceAdd, Nat.reduceLeDiff, Nat.zero_le, cat_0, cat_i, cat_r, opt_n, opt_s, true_and, nI_add, pk_mul, ua_ua, ua_s, ua_n, not_false_eq_true, Nat.reduceEqDiff, xi_n (show 3 + 42 * ix x + ix y < 213 by omega) (show 213 < 2147483648 by decide)]
      exact hX
    · rw [if_neg (fun q => hy q.2)] at hX
      simp only [s133_0, s133_1, s133_4, s133_7, s133_8, s133_9, s133_12, s133_15, s133_16, s133_19, s133_20, s133_21, s133_22, s133_25, s133_26, s133_29, s133_30, mis, mg1, mg2, mg3, mg4, mg5, mg6, mg7, mg8, mg9, mg10, mg11, mg12, mg13, mg14, mg15, mg16, mg17, mg18, mg19, mg20, mg21, mg22, ms1, ms2, ms3, ms4, ms5, ms6, ms7, ms8, ms9, ms10, ms11, ms12, ms13, ms14, ms15, ms16, ms17, ms18, ms19, ms20, ms21, ms22, mf0, mf1, mf2, mf3, mf4, mf5, mf6, mf7, mf8, mf9, mf10, mf11, mf12, mf13, mf14, mf15, mf16, mf17, mf18, mf19, mf20, mf21, mf22, mf23, mf24, mf25, mf26, mp4, mp7, mp22, mp25, mp26, mq_0, al_I, as_I, zl_Z, zs_0, zs_1, Nat.reduceAdd, Nat.reduceLeDiff, Nat.zero_le, cat_0, cat_i, cat_r, opt_n, opt_s, true_and, nI_add, pk_mul, ua_ua, ua_s, ua_n, not_false_eq_true, Nat.reduceEqDiff, r_isS, r_isD h1 h2 hT, if_pos hx, if_neg hy, i10, i10n, not_true_eq_false, if_false, if_true]
      exact hX
  · rw [if_neg (fun q => hx q.1)] at hX
    simp only [s133_0, s133_1, s133_4, s133_7, s133_8, s133_9, s133_12, s133_15, s133_16, s133_19, s133_20, s133_21, s133_22, s133_25, s133_26, s133_29, s133_30, mis, mg1, mg2, mg3, mg4, mg5, mg6, mg7, mg8, mg9, mg10, mg11, mg12, mg13, mg14, mg15, mg16, mg17, mg18, mg19, mg20, mg21, mg22, ms1, ms2, ms3, ms4, ms5, ms6, ms7, ms8, ms9, ms10, ms11, ms12, ms13, ms14, ms15, ms16, ms17, ms18, ms19, ms20, ms21, ms22, mf0, mf1, mf2, mf3, mf4, mf5, mf6, mf7, mf8, mf9, mf10, mf11, mf12, mf13, mf14, mf15, mf16, mf17, mf18, mf19, mf20, mf21, mf22, mf23, mf24, mf25, mf26, mp4, mp7, mp22, mp25, mp26, mq_0, al_I, as_I, zl_Z, zs_0, zs_1, Nat.reduceAdd, Nat.reduceLeDiff, Nat.zero_le, cat_0, cat_i, cat_r, opt_n, opt_s, true_and, nI_add, pk_mul, ua_ua, ua_s, ua_n, not_false_eq_true, Nat.reduceEqDiff, r_isS, if_neg hx, i10, i10n, not_true_eq_false, if_false, if_true]
    exact hX
def imF (k n : Nat) (f s : Nat → Int32) : Nat → Int32 := fun j => if 213 * k ≤ j ∧ j < 213 * k + n then s (j - 213 * k) else f j
def reF (k n : Nat) (f m : Nat → Int32) : Nat → Int32 := fun j => if j < n then m (213 * k + j) else f j
theorem imF_s {k t : Nat} {f s : Nat → Int32} : upd (imF k t f s) (213 * k + t) (s t) = imF k (t + 1) f s := by
  funext j
  by_cases hj : j = 213 * k + t
  · rw [hj, pk_us]
    unfold imF
    rw [if_pos (by omega), show 213 * k + t - 213 * k = t by omega]
  · rw [pk_un hj]
    unfold imF
    by_cases hc : 213 * k ≤ j ∧ j < 213 * k + t
    · rw [if_pos hc, if_pos (by omega)]
    · rw [if_neg hc, if_neg (by omega)]
theorem reF_s {k t : Nat} {f m : Nat → Int32} : upd (reF k t f m) t (m (213 * k + t)) = reF k (t + 1) f m := by
  funext j
  by_cases hj : j = t
  · rw [hj, pk_us]
    unfold reF
    rw [if_pos (by omega)]
  · rw [pk_un hj]
    unfold reF
    by_cases hc : j < t
    · rw [if_pos hc, if_pos (by omega)]
    · rw [if_neg hc, if_neg (by omega)]
theorem l_im {k : Nat} (hk : k < 2) (hX : X (some (.int (nI 1))) (mdl M (ua (ua A 2 (imF k 213 (A 2) (A 1))) 3 (upd (A 3) k (nI 1))) g)) : ∀ (n t : Nat), n + t = 213 → ex_W 156 14 [.ref M, .int (nI k), .int (nI t)] [] (mdl M (ua A 2 (imF k t (A 2) (A 1))) g) X := by
  intro n
  induction n with
  | zero =>
    intro t hn
    obtain rfl : t = 213 := by omega
    rw [s156_14]
    simp only [s156_0, s156_1, s156_2, s156_3, s156_6, s156_9, s156_11, s156_12, s156_13, s156_15, s156_18, s156_21, s156_22, s156_25, s156_28, s156_29, s156_30, s156_31, s156_32, s156_33, s156_36, s156_37, s156_38, s156_39, s156_42, s156_45, s156_46, s156_49, s156_50, s156_51, s156_52, s156_53, mis, mg1, mg2, mg3, mg4, mg5, mg6, mg7, mg8, mg9, mg10, mg11, mg12, mg13, mg14, mg15, mg16, mg17, mg18, mg19, mg20, mg21, mg22, ms1, ms2, ms3, ms4, ms5, ms6, ms7, ms8, ms9, ms10, ms11, ms12, ms13, ms14, ms15, ms16, ms17, ms18, ms19, ms20, ms21, ms22, mf0, mf1, mf2, mf3, mf4, mf5, mf6, mf7, mf8, mf9, mf10, mf11, mf12, mf13, mf14, mf15, mf16, mf17, mf18, mf19, mf20, mf21, mf22, mf23, mf24, mf25, mf26, mp4, mp7, mp22, mp25, mp26, mq_0, al_I, as_I, zl_Z, zs_0, zs_1, Nat.reduceAdd, Nat.reduceLeDiff, Nat.zero_le, cat_0, cat_i, cat_r, opt_n, opt_s, true_and, nI_add, pk_mul, ua_ua, ua_s, ua_n, not_false_eq_true, Nat.reduceEqDiff, xi_n (show k < 2 by omega) (show 2 < 2147483648 by decide)]
    rw [if_pos (by decide)]
    exact hX
  | succ n ih =>
    intro t hn
    rw [s156_14]
    simp only [s156_0, s156_1, s156_2, s156_3, s156_6, s156_9, s156_11, s156_12, s156_13, s156_15, s156_18, s156_21, s156_22, s156_25, s156_28, s156_29, s156_30, s156_31, s156_32, s156_33, s156_36, s156_37, s156_38, s156_39, s156_42, s156_45, s156_46, s156_49, s156_50, s156_51, s156_52, s156_53, mis, mg1, mg2, mg3, mg4, mg5, mg6, mg7, mg8, mg9, mg10, mg11, mg12, mg13, mg14, mg15, mg16, mg17, mg18, mg19, mg20, mg21, mg22, ms1, ms2, ms3, ms4, ms5, ms6, ms7, ms8, ms9, ms10, ms11, ms12, ms13, ms14, ms15, ms16, ms17, ms18, ms19, ms20, ms21, ms22, mf0, mf1, mf2, mf3, mf4, mf5, mf6, mf7, mf8, mf9, mf10, mf11, mf12, mf13, mf14, mf15, mf16, mf17, mf18, mf19, mf20, mf21, mf22, mf23, mf24, mf25, mf26, mp4, mp7, mp22, mp25, mp26, mq_0, al_I, as_I, zl_Z, zs_0, zs_1, Nat.reduceAdd, Nat.reduceLeDiff, Nat.zero_le, cat_0, cat_i, cat_r, opt_n, opt_s, true_and, nI_add, pk_mul, ua_ua, ua_s, ua_n, not_false_eq_true, Nat.reduceEqDiff, xi_n (show 213 * k + t < 426 by omega) (show 426 < 2147483648 by decide), xi_n (show t < 213 by omega) (show 213 < 2147483648 by decide), imF_s]
    rw [if_neg (fun z => absurd ((nI_l1 (by omega) (by omega)).mp z) (by omega))]
    exact ih (t + 1) (by omega)
theorem imF_0 {k : Nat} {f s : Nat → Int32} : imF k 0 f s = f := by
  funext j
  unfold imF
  rw [if_neg (by omega)]
theorem reF_0 {k : Nat} {f s : Nat → Int32} : reF k 0 f s = f := by
  funext j
  unfold reF
  rw [if_neg (by omega)]
theorem r_image_no {x : Int32} (hx : ¬ isW 0 1 x) (hX : X (some (.int (-2))) (mdl M A g)) : ex_W 156 0 [.ref M, .int x, oU] [] (mdl M A g) X := by
  simp only [s156_0, s156_1, s156_2, s156_3, s156_6, s156_9, s156_11, s156_12, s156_13, s156_15, s156_18, s156_21, s156_22, s156_25, s156_28, s156_29, s156_30, s156_31, s156_32, s156_33, s156_36, s156_37, s156_38, s156_39, s156_42, s156_45, s156_46, s156_49, s156_50, s156_51, s156_52, s156_53, mis, mg1, mg2, mg3, mg4, mg5, mg6, mg7, mg8, mg9, mg10, mg11, mg12, mg13, mg14, mg15, mg16, mg17, mg18, mg19, mg20, mg21, mg22, ms1, ms2, ms3, ms4, ms5, ms6, ms7, ms8, ms9, ms10, ms11, ms12, ms13, ms14, ms15, ms16, ms17, ms18, ms19, ms20, ms21, ms22, mf0, mf1, mf2, mf3, mf4, mf5, mf6, mf7, mf8, mf9, mf10, mf11, mf12, mf13, mf14, mf15, mf16, mf17, mf18, mf19, mf20, mf21, mf22, mf23, mf24, mf25, mf26, mp4, mp7, mp22, mp25, mp26, mq_0, al_I, as_I, zl_Z, zs_0, zs_1, Nat.reduceAdd, Nat.reduceLeDiff, Nat.zero_le, cat_0, cat_i, cat_r, opt_n, opt_s, true_and, nI_add, pk_mul, ua_ua, ua_s, ua_n, not_false_eq_true, Nat.reduceEqDiff, r_inW, if_neg hx, i10, i10n, not_true_eq_false, if_false, if_true]
  exact hX
theorem r_image {x : Int32} (hx : isW 0 1 x) (hX : X (some (.int (nI 1))) (mdl M (ua (ua A 2 (imF (ix x) 213 (A 2) (A 1))) 3 (upd (A 3) (ix x) (nI 1))) g)) : ex_W 156 0 [.ref M, .int x, oU] [] (mdl M A g) X := by
  obtain ⟨_, q2, q3⟩ := isW_e (by decide) (by decide) hx
  simp only [s156_0, s156_1, s156_2, s156_3, s156_6, s156_9, s156_11, s156_12, s156_13, s156_15, s156_18, s156_21, s156_22, s156_25, s156_28, s156_29, s156_30, s156_31, s156_32, s156_33, s156_36, s156_37, s156_38, s156_39, s156_42, s156_45, s156_46, s156_49, s156_50, s156_51, s156_52, s156_53, mis, mg1, mg2, mg3, mg4, mg5, mg6, mg7, mg8, mg9, mg10, mg11, mg12, mg13, mg14, mg15, mg16, mg17, mg18, mg19, mg20, mg21, mg22, ms1, ms2, ms3, ms4, ms5, ms6, ms7, ms8, ms9, ms10, ms11, ms12, ms13, ms14, ms15, ms16, ms17, ms18, ms19, ms20, ms21, ms22, mf0, mf1, mf2, mf3, mf4, mf5, mf6, mf7, mf8, mf9, mf10, mf11, mf12, mf13, mf14, mf15, mf16, mf17, mf18, mf19, mf20, mf21, mf22, mf23, mf24, mf25, mf26, mp4, mp7, mp22, mp25, mp26, mq_0, al_I, as_I, zl_Z, zs_0, zs_1, Nat.reduceAdd, Nat.reduceLeDiff, Nat.zero_le, cat_0, cat_i, cat_r, opt_n, opt_s, true_and, nI_add, pk_mul, ua_ua, ua_s, ua_n, not_false_eq_true, Nat.reduceEqDiff, r_inW, if_pos hx, i10, i10n, not_true_eq_false, if_false, if_true]
  have := l_im (M := M) (A := A) (g := g) (X := X) (k := ix x) (by omega) hX 213 0 (by decide)
  rw [imF_0, ua_id, q3] at this
  exact this
theorem l_re {k k1 : Nat} (hk : k < 2) (hk1 : 1 ≤ k1) (hk5 : k1 ≤ 5) (hv : A 2 (213 * k) = nI k1) (hX : ∀ B : Nat → Nat → Int32, (∀ j, ¬ j = 0 → ¬ j = 1 → ¬ j = 5 → ¬ j = 6 → ¬ j = 7 → ¬ j = 8 → ¬ j = 9 → ¬ j = 10 → ¬ j = 11 → B j = A j) → (∀ j, ¬ j = 1 → B 0 j = A 0 j) → B 1 = reF k 213 (A 1) (A 2) → mTab k1 B → X (some (.int (nI 1))) (mdl M B g)) : ∀ (n t : Nat), n + t = 213 → ex_W 157 26 [.ref M, .int (nI k), .int (nI t)] [] (mdl M (ua A 1 (reF k t (A 1) (A 2))) g) X := by
  intro n
  induction n with
  | zero =>
    intro t hn
    obtain rfl : t = 213 := by omega
    rw [s157_26]
    simp only [s157_0, s157_1, s157_2, s157_3, s157_6, s157_9, s157_11, s157_12, s157_13, s157_16, s157_17, s157_18, s157_21, s157_23, s157_24, s157_25, s157_27, s157_30, s157_33, s157_34, s157_37, s157_38, s157_39, s157_42, s157_45, s157_46, s157_47, s157_48, s157_49, s157_50, s157_51, s157_54, s157_57, s157_58, s157_61, s157_62, mis, mg1, mg2, mg3, mg4, mg5, mg6, mg7, mg8, mg9, mg10, mg11, mg12, mg13, mg14, mg15, mg16, mg17, mg18, mg19, mg20, mg21, mg22, ms1, ms2, ms3, ms4, ms5, ms6, ms7, ms8, ms9, ms10, ms11, ms12, ms13, ms14, ms15, ms16, ms17, ms18, ms19, ms20, ms21, ms22, mf0, mf1, mf2, mf3, mf4, mf5, mf6, mf7, mf8, mf9, mf10, mf11, mf12, mf13, mf14, mf15, mf16, mf17, mf18, mf19, mf20, mf21, mf22, mf23, mf24, mf25, mf26, mp4, mp7, mp22, mp25, mp26, mq_0, al_I, as_I, zl_Z, zs_0, zs_1, Nat.reduceAdd, Nat.reduceLeDiff, Nat.zero_le, cat_0, cat_i, cat_r, opt_n, opt_s, true_and, nI_add, pk_mul, ua_ua, ua_s, ua_n, not_false_eq_true, Nat.reduceEqDiff]
    rw [if_pos (by decide)]
    refine r_layDiagrams hk1 hk5 (by rw [ua_s]; exact hv) (fun B hB hB0 hT => ?_)
    simp only [s157_0, s157_1, s157_2, s157_3, s157_6, s157_9, s157_11, s157_12, s157_13, s157_16, s157_17, s157_18, s157_21, s157_23, s157_24, s157_25, s157_27, s157_30, s157_33, s157_34, s157_37, s157_38, s157_39, s157_42, s157_45, s157_46, s157_47, s157_48, s157_49, s157_50, s157_51, s157_54, s157_57, s157_58, s157_61, s157_62, mis, mg1, mg2, mg3, mg4, mg5, mg6, mg7, mg8, mg9, mg10, mg11, mg12, mg13, mg14, mg15, mg16, mg17, mg18, mg19, mg20, mg21, mg22, ms1, ms2, ms3, ms4, ms5, ms6, ms7, ms8, ms9, ms10, ms11, ms12, ms13, ms14, ms15, ms16, ms17, ms18, ms19, ms20, ms21, ms22, mf0, mf1, mf2, mf3, mf4, mf5, mf6, mf7, mf8, mf9, mf10, mf11, mf12, mf13, mf14, mf15, mf16, mf17, mf18, mf19, mf20, mf21, mf22, mf23, mf24, mf25, mf26, mp4, mp7, mp22, mp25, mp26, mq_0, al_I, as_I, zl_Z, zs_0, zs_1, Nat.reduceAdd, Nat.reduceLeDiff, Nat.zero_le, cat_0, cat_i, cat_r, opt_n, opt_s, true_and, nI_add, pk_mul, ua_ua, ua_s, ua_n, not_false_eq_true, Nat.reduceEqDiff]
    refine hX B (fun j j0 j1 j5 j6 j7 j8 j9 j10 j11 => ?_) (fun j hj => ?_) ?_ hT
    · rw [hB j j0 j5 j6 j7 j8 j9 j10 j11, ua_n j1]
    · rw [hB0 j hj, ua_n (by decide)]
    · rw [hB 1 (by decide) (by decide) (by decide) (by decide) (by decide) (by decide) (by decide) (by decide), ua_s]
  | succ n ih =>
    intro t hn
    rw [s157_26]
    simp only [s157_0, s157_1, s157_2, s157_3, s157_6, s157_9, s157_11, s157_12, s157_13, s157_16, s157_17, s157_18, s157_21, s157_23, s157_24, s157_25, s157_27, s157_30, s157_33, s157_34, s157_37, s157_38, s157_39, s157_42, s157_45, s157_46, s157_47, s157_48, s157_49, s157_50, s157_51, s157_54, s157_57, s157_58, s157_61, s157_62, mis, mg1, mg2, mg3, mg4, mg5, mg6, mg7, mg8, mg9, mg10, mg11, mg12, mg13, mg14, mg15, mg16, mg17, mg18, mg19, mg20, mg21, mg22, ms1, ms2, ms3, ms4, ms5, ms6, ms7, ms8, ms9, ms10, ms11, ms12, ms13, ms14, ms15, ms16, ms17, ms18, ms19, ms20, ms21, ms22, mf0, mf1, mf2, mf3, mf4, mf5, mf6, mf7, mf8, mf9, mf10, mf11, mf12, mf13, mf14, mf15, mf16, mf17, mf18, mf19, mf20, mf21, mf22, mf23, mf24, mf25, mf26, mp4, mp7, mp22, mp25, mp26, mq_0, al_I, as_I, zl_Z, zs_0, zs_1, Nat.reduceAdd, Nat.reduceLeDiff, Nat.zero_le, cat_0, cat_i, cat_r, opt_n, opt_s, true_and, nI_add, pk_mul, ua_ua, ua_s, ua_n, not_false_eq_true, Nat.reduceEqDiff, xi_n (show 213 * k + t < 426 by omega) (show 426 < 2147483648 by decide), xi_n (show t < 213 by omega) (show 213 < 2147483648 by decide), reF_s]
    rw [if_neg (fun z => absurd ((nI_l1 (by omega) (by omega)).mp z) (by omega))]
    exact ih (t + 1) (by omega)
theorem r_restore_no {x : Int32} (hx : ¬ isW 0 1 x) (hX : X (some (.int (-2))) (mdl M A g)) : ex_W 157 0 [.ref M, .int x, oU] [] (mdl M A g) X := by
  simp only [s157_0, s157_1, s157_2, s157_3, s157_6, s157_9, s157_11, s157_12, s157_13, s157_16, s157_17, s157_18, s157_21, s157_23, s157_24, s157_25, s157_27, s157_30, s157_33, s157_34, s157_37, s157_38, s157_39, s157_42, s157_45, s157_46, s157_47, s157_48, s157_49, s157_50, s157_51, s157_54, s157_57, s157_58, s157_61, s157_62, mis, mg1, mg2, mg3, mg4, mg5, mg6, mg7, mg8, mg9, mg10, mg11, mg12, mg13, mg14, mg15, mg16, mg17, mg18, mg19, mg20, mg21, mg22, ms1, ms2, ms3, ms4, ms5, ms6, ms7, ms8, ms9, ms10, ms11, ms12, ms13, ms14, ms15, ms16, ms17, ms18, ms19, ms20, ms21, ms22, mf0, mf1, mf2, mf3, mf4, mf5, mf6, mf7, mf8, mf9, mf10, mf11, mf12, mf13, mf14, mf15, mf16, mf17, mf18, mf19, mf20, mf21, mf22, mf23, mf24, mf25, mf26, mp4, mp7, mp22, mp25, mp26, mq_0, al_I, as_I, zl_Z, zs_0, zs_1, Nat.reduceAdd, Nat.reduceLeDiff, Nat.zero_le, cat_0, cat_i, cat_r, opt_n, opt_s, true_and, nI_add, pk_mul, ua_ua, ua_s, ua_n, not_false_eq_true, Nat.reduceEqDiff, r_inW, if_neg hx, i10, i10n, not_true_eq_false, if_false, if_true]
  exact hX
theorem r_restore_st {x : Int32} (hx : isW 0 1 x) (h3 : A 3 (ix x) = nI 0) (hX : X (some (.int (-3))) (mdl M A g)) : ex_W 157 0 [.ref M, .int x, oU] [] (mdl M A g) X := by
  obtain ⟨_, q2, q3⟩ := isW_e (by decide) (by decide) hx
  simp only [s157_0, s157_1, s157_2, s157_3, s157_6, s157_9, s157_11, s157_12, s157_13, s157_16, s157_17, s157_18, s157_21, s157_23, s157_24, s157_25, s157_27, s157_30, s157_33, s157_34, s157_37, s157_38, s157_39, s157_42, s157_45, s157_46, s157_47, s157_48, s157_49, s157_50, s157_51, s157_54, s157_57, s157_58, s157_61, s157_62, mis, mg1, mg2, mg3, mg4, mg5, mg6, mg7, mg8, mg9, mg10, mg11, mg12, mg13, mg14, mg15, mg16, mg17, mg18, mg19, mg20, mg21, mg22, ms1, ms2, ms3, ms4, ms5, ms6, ms7, ms8, ms9, ms10, ms11, ms12, ms13, ms14, ms15, ms16, ms17, ms18, ms19, ms20, ms21, ms22, mf0, mf1, mf2, mf3, mf4, mf5, mf6, mf7, mf8, mf9, mf10, mf11, mf12, mf13, mf14, mf15, mf16, mf17, mf18, mf19, mf20, mf21, mf22, mf23, mf24, mf25, mf26, mp4, mp7, mp22, mp25, mp26, mq_0, al_I, as_I, zl_Z, zs_0, zs_1, Nat.reduceAdd, Nat.reduceLeDiff, Nat.zero_le, cat_0, cat_i, cat_r, opt_n, opt_s, true_and, nI_add, pk_mul, ua_ua, ua_s, ua_n, not_false_eq_true, Nat.reduceEqDiff, r_inW, if_pos hx, i10, i10n, not_true_eq_false, if_false, if_true]
  rw [← q3]
  simp only [s157_0, s157_1, s157_2, s157_3, s157_6, s157_9, s157_11, s157_12, s157_13, s157_16, s157_17, s157_18, s157_21, s157_23, s157_24, s157_25, s157_27, s157_30, s157_33, s157_34, s157_37, s157_38, s157_39, s157_42, s157_45, s157_46, s157_47, s157_48, s157_49, s157_50, s157_51, s157_54, s157_57, s157_58, s157_61, s157_62, mis, mg1, mg2, mg3, mg4, mg5, mg6, mg7, mg8, mg9, mg10, mg11, mg12, mg13, mg14, mg15, mg16, mg17, mg18, mg19, mg20, mg21, mg22, ms1, ms2, ms3, ms4, ms5, ms6, ms7, ms8, ms9, ms10, ms11, ms12, ms13, ms14, ms15, ms16, ms17, ms18, ms19, ms20, ms21, ms22, mf0, mf1, mf2, mf3, mf4, mf5, mf6, mf7, mf8, mf9, mf10, mf11, mf12, mf13, mf14, mf15, mf16, mf17, mf18, mf19, mf20, mf21, mf22, mf23, mf24, mf25, mf26, mp4, mp7, mp22, mp25, mp26, mq_0, al_I, as_I, zl_Z, zs_0, zs_1, Nat.reduceAdd, Nat.reduceLeDiff, Nat.zero_le, cat_0, cat_i, cat_r, opt_n, opt_s, true_and, nI_add, pk_mul, ua_ua, ua_s, ua_n, not_false_eq_true, Nat.reduceEqDiff, xi_n (show ix x < 2 by omega) (show 2 < 2147483648 by decide), h3, i10, i10n, not_true_eq_false, if_false, if_true]
  exact hX
theorem r_restore {x : Int32} {k1 : Nat} (hx : isW 0 1 x) (h3 : A 3 (ix x) = nI 1) (hk1 : 1 ≤ k1) (hk5 : k1 ≤ 5) (hv : A 2 (213 * ix x) = nI k1) (hX : ∀ B : Nat → Nat → Int32, (∀ j, ¬ j = 0 → ¬ j = 1 → ¬ j = 5 → ¬ j = 6 → ¬ j = 7 → ¬ j = 8 → ¬ j = 9 → ¬ j = 10 → ¬ j = 11 → B j = A j) → (∀ j, ¬ j = 1 → B 0 j = A 0 j) → B 1 = reF (ix x) 213 (A 1) (A 2) → mTab k1 B → X (some (.int (nI 1))) (mdl M B g)) : ex_W 157 0 [.ref M, .int x, oU] [] (mdl M A g) X := by
  obtain ⟨_, q2, q3⟩ := isW_e (by decide) (by decide) hx
  simp only [s157_0, s157_1, s157_2, s157_3, s157_6, s157_9, s157_11, s157_12, s157_13, s157_16, s157_17, s157_18, s157_21, s157_23, s157_24, s157_25, s157_27, s157_30, s157_33, s157_34, s157_37, s157_38, s157_39, s157_42, s157_45, s157_46, s157_47, s157_48, s157_49, s157_50, s157_51, s157_54, s157_57, s157_58, s157_61, s157_62, mis, mg1, mg2, mg3, mg4, mg5, mg6, mg7, mg8, mg9, mg10, mg11, mg12, mg13, mg14, mg15, mg16, mg17, mg18, mg19, mg20, mg21, mg22, ms1, ms2, ms3, ms4, ms5, ms6, ms7, ms8, ms9, ms10, ms11, ms12, ms13, ms14, ms15, ms16, ms17, ms18, ms19, ms20, ms21, ms22, mf0, mf1, mf2, mf3, mf4, mf5, mf6, mf7, mf8, mf9, mf10, mf11, mf12, mf13, mf14, mf15, mf16, mf17, mf18, mf19, mf20, mf21, mf22, mf23, mf24, mf25, mf26, mp4, mp7, mp22, mp25, mp26, mq_0, al_I, as_I, zl_Z, zs_0, zs_1, Nat.reduceAdd, Nat.reduceLeDiff, Nat.zero_le, cat_0, cat_i, cat_r, opt_n, opt_s, true_and, nI_add, pk_mul, ua_ua, ua_s, ua_n, not_false_eq_true, Nat.reduceEqDiff, r_inW, if_pos hx, i10, i10n, not_true_eq_false, if_false, if_true]
  have := l_re (M := M) (A := A) (g := g) (X := X) (k := ix x) (by omega) hk1 hk5 hv hX 213 0 (by decide)
  rw [reF_0, ua_id] at this
  rw [← q3]
  simp only [s157_0, s157_1, s157_2, s157_3, s157_6, s157_9, s157_11, s157_12, s157_13, s157_16, s157_17, s157_18, s157_21, s157_23, s157_24, s157_25, s157_27, s157_30, s157_33, s157_34, s157_37, s157_38, s157_39, s157_42, s157_45, s157_46, s157_47, s157_48, s157_49, s157_50, s157_51, s157_54, s157_57, s157_58, s157_61, s157_62, mis, mg1, mg2, mg3, mg4, mg5, mg6, mg7, mg8, mg9, mg10, mg11, mg12, mg13, mg14, mg15, mg16, mg17, mg18, mg19, mg20, mg21, mg22, ms1, ms2, ms3, ms4, ms5, ms6, ms7, ms8, ms9, ms10, ms11, ms12, ms13, ms14, ms15, ms16, ms17, ms18, ms19, ms20, ms21, ms22, mf0, mf1, mf2, mf3, mf4, mf5, mf6, mf7, mf8, mf9, mf10, mf11, mf12, mf13, mf14, mf15, mf16, mf17, mf18, mf19, mf20, mf21, mf22, mf23, mf24, mf25, mf26, mp4, mp7, mp22, mp25, mp26, mq_0, al_I, as_I, zl_Z, zs_0, zs_1, Nat.reduceAdd, Nat.reduceLeDiff, Nat.zero_le, cat_0, cat_i, cat_r, opt_n, opt_s, true_and, nI_add, pk_mul, ua_ua, ua_s, ua_n, not_false_eq_true, Nat.reduceEqDiff, xi_n (show ix x < 2 by omega) (show 2 < 2147483648 by decide), h3, i10, i10n, not_true_eq_false, if_false, if_true]
  exact this
def aCt (v p lo N k : Nat) (x : Int32) : Int32 := if x = nI 0 then nI v else if x = nI 1 then nI (tC v) else if x = nI 2 then nI p else if x = nI 3 then nI lo else if x = nI 4 then nI N else if x = nI 5 then nI k else -2
theorem r_count {x : Int32} {N : Nat} {b0 b1 : Bool} (hT : mTab v A) (hv : A 1 0 = nI v) (hp : A 1 1 = nI p) (hlo : A 1 2 = nI lo) (hN : A 0 0 = nI N) (h0 : A 3 0 = bI b0) (h1 : A 3 1 = bI b1) (hX : X (some (.int (aCt v p lo N ((if b0 = true then 1 else 0) + (if b1 = true then 2 else 0)) x))) (mdl M A g)) : ex_W 158 0 [.ref M, .int x] [] (mdl M A g) X := by
  unfold aCt at hX
  simp only [s158_0, s158_1, s158_40, s158_41, s158_44, s158_45, s158_46, s158_47, s158_48, s158_51, s158_52, s158_53, s158_56, s158_57, s158_58, s158_59, s158_60, s158_63, s158_64, s158_65, s158_66, s158_67, s158_70, s158_71, s158_72, s158_75, s158_76, s158_77, s158_80, s158_81, s158_84, s158_86, s158_89, s158_90, s158_91, s158_94, s158_95, s158_98, s158_99, s158_100, s158_101, s158_103, mis, mg1, mg2, mg3, mg4, mg5, mg6, mg7, mg8, mg9, mg10, mg11, mg12, mg13, mg14, mg15, mg16, mg17, mg18, mg19, mg20, mg21, mg22, ms1, ms2, ms3, ms4, ms5, ms6, ms7, ms8, ms9, ms10, ms11, ms12, ms13, ms14, ms15, ms16, ms17, ms18, ms19, ms20, ms21, ms22, mf0, mf1, mf2, mf3, mf4, mf5, mf6, mf7, mf8, mf9, mf10, mf11, mf12, mf13, mf14, mf15, mf16, mf17, mf18, mf19, mf20, mf21, mf22, mf23, mf24, mf25, mf26, mp4, mp7, mp22, mp25, mp26, mq_0, al_I, as_I, zl_Z, zs_0, zs_1, Nat.reduceAdd, Nat.reduceLeDiff, Nat.zero_le, cat_0, cat_i, cat_r, opt_n, opt_s, true_and, nI_add, pk_mul, ua_ua, ua_s, ua_n, not_false_eq_true, Nat.reduceEqDiff, xi_n (show 0 < 213 by omega) (show 213 < 2147483648 by decide), xi_n (show 1 < 213 by omega) (show 213 < 2147483648 by decide), xi_n (show 2 < 213 by omega) (show 213 < 2147483648 by decide), xi_n (show 0 < 2 by omega) (show 2 < 2147483648 by decide), hv, hp, hlo, hN, hT.1, h0]
  by_cases y0 : x = nI 0
  · rw [if_pos y0] at hX ⊢; exact hX
  · rw [if_neg y0] at hX ⊢
    by_cases y1 : x = nI 1
    · rw [if_pos y1] at hX ⊢; exact hX
    · rw [if_neg y1] at hX ⊢
      by_cases y2 : x = nI 2
      · rw [if_pos y2] at hX ⊢; exact hX
      · rw [if_neg y2] at hX ⊢
        by_cases y3 : x = nI 3
        · rw [if_pos y3] at hX ⊢; exact hX
        · rw [if_neg y3] at hX ⊢
          by_cases y4 : x = nI 4
          · rw [if_pos y4] at hX ⊢; exact hX
          · rw [if_neg y4] at hX ⊢
            by_cases y5 : x = nI 5
            · rw [if_pos y5] at hX ⊢
              cases b0 <;> cases b1
              · simp only [bI, Bool.false_eq_true, s158_0, s158_1, s158_40, s158_41, s158_44, s158_45, s158_46, s158_47, s158_48, s158_51, s158_52, s158_53, s158_56, s158_57, s158_58, s158_59, s158_60, s158_63, s158_64, s158_65, s158_66, s158_67, s158_70, s158_71, s158_72, s158_75, s158_76, s158_77, s158_80, s158_81, s158_84, s158_85, s158_86, s158_89, s158_90, s158_91, s158_94, s158_95, s158_98, s158_99, s158_100, s158_101, s158_103, mis, mg1, mg2, mg3, mg4, mg5, mg6, mg7, mg8, mg9, mg10, mg11, mg12, mg13, mg14, mg15, mg16, mg17, mg18, mg19, mg20, mg21, mg22, ms1, ms2, ms3, ms4, ms5, ms6, ms7, ms8, ms9, ms10, ms11, ms12, ms13, ms14, ms15, ms16, ms17, ms18, ms19, ms20, ms21, ms22, mf0, mf1, mf2, mf3, mf4, mf5, mf6, mf7, mf8, mf9, mf10, mf11, mf12, mf13, mf14, mf15, mf16, mf17, mf18, mf19, mf20, mf21, mf22, mf23, mf24, mf25, mf26, mp4, mp7, mp22, mp25, mp26, mq_0, al_I, as_I, zl_Z, zs_0, zs_1, Nat.reduceAdd, Nat.reduceLeDiff, Nat.zero_le, cat_0, cat_i, cat_r, opt_n, opt_s, true_and, nI_add, pk_mul, ua_ua, ua_s, ua_n, not_false_eq_true, Nat.reduceEqDiff, i10, i10n, not_true_eq_false, if_false, if_true, xi_n (show 1 < 2 by omega) (show 2 < 2147483648 by decide), h1] at hX ⊢
                exact hX
              · simp only [bI, Bool.false_eq_true, s158_0, s158_1, s158_40, s158_41, s158_44, s158_45, s158_46, s158_47, s158_48, s158_51, s158_52, s158_53, s158_56, s158_57, s158_58, s158_59, s158_60, s158_63, s158_64, s158_65, s158_66, s158_67, s158_70, s158_71, s158_72, s158_75, s158_76, s158_77, s158_80, s158_81, s158_84, s158_85, s158_86, s158_89, s158_90, s158_91, s158_94, s158_95, s158_98, s158_99, s158_100, s158_101, s158_103, mis, mg1, mg2, mg3, mg4, mg5, mg6, mg7, mg8, mg9, mg10, mg11, mg12, mg13, mg14, mg15, mg16, mg17, mg18, mg19, mg20, mg21, mg22, ms1, ms2, ms3, ms4, ms5, ms6, ms7, ms8, ms9, ms10, ms11, ms12, ms13, ms14, ms15, ms16, ms17, ms18, ms19, ms20, ms21, ms22, mf0, mf1, mf2, mf3, mf4, mf5, mf6, mf7, mf8, mf9, mf10, mf11, mf12, mf13, mf14, mf15, mf16, mf17, mf18, mf19, mf20, mf21, mf22, mf23, mf24, mf25, mf26, mp4, mp7, mp22, mp25, mp26, mq_0, al_I, as_I, zl_Z, zs_0, zs_1, Nat.reduceAdd, Nat.reduceLeDiff, Nat.zero_le, cat_0, cat_i, cat_r, opt_n, opt_s, true_and, nI_add, pk_mul, ua_ua, ua_s, ua_n, not_false_eq_true, Nat.reduceEqDiff, i10, i10n, not_true_eq_false, if_false, if_true, xi_n (show 1 < 2 by omega) (show 2 < 2147483648 by decide), h1] at hX ⊢
                exact hX
              · simp only [bI, Bool.false_eq_true, s158_0, s158_1, s158_40, s158_41, s158_44, s158_45, s158_46, s158_47, s158_48, s158_51, s158_52, s158_53, s158_56, s158_57, s158_58, s158_59, s158_60, s158_63, s158_64, s158_65, s158_66, s158_67, s158_70, s158_71, s158_72, s158_75, s158_76, s158_77, s158_80, s158_81, s158_84, s158_85, s158_86, s158_89, s158_90, s158_91, s158_94, s158_95, s158_98, s158_99, s158_100, s158_101, s158_103, mis, mg1, mg2, mg3, mg4, mg5, mg6, mg7, mg8, mg9, mg10, mg11, mg12, mg13, mg14, mg15, mg16, mg17, mg18, mg19, mg20, mg21, mg22, ms1, ms2, ms3, ms4, ms5, ms6, ms7, ms8, ms9, ms10, ms11, ms12, ms13, ms14, ms15, ms16, ms17, ms18, ms19, ms20, ms21, ms22, mf0, mf1, mf2, mf3, mf4, mf5, mf6, mf7, mf8, mf9, mf10, mf11, mf12, mf13, mf14, mf15, mf16, mf17, mf18, mf19, mf20, mf21, mf22, mf23, mf24, mf25, mf26, mp4, mp7, mp22, mp25, mp26, mq_0, al_I, as_I, zl_Z, zs_0, zs_1, Nat.reduceAdd, Nat.reduceLeDiff, Nat.zero_le, cat_0, cat_i, cat_r, opt_n, opt_s, true_and, nI_add, pk_mul, ua_ua, ua_s, ua_n, not_false_eq_true, Nat.reduceEqDiff, i10, i10n, not_true_eq_false, if_false, if_true, xi_n (show 1 < 2 by omega) (show 2 < 2147483648 by decide), h1] at hX ⊢
                exact hX
              · simp only [bI, Bool.false_eq_true, s158_0, s158_1, s158_40, s158_41, s158_44, s158_45, s158_46, s158_47, s158_48, s158_51, s158_52, s158_53, s158_56, s158_57, s158_58, s158_59, s158_60, s158_63, s158_64, s158_65, s158_66, s158_67, s158_70, s158_71, s158_72, s158_75, s158_76, s158_77, s158_80, s158_81, s158_84, s158_85, s158_86, s158_89, s158_90, s158_91, s158_94, s158_95, s158_98, s158_99, s158_100, s158_101, s158_103, mis, mg1, mg2, mg3, mg4, mg5, mg6, mg7, mg8, mg9, mg10, mg11, mg12, mg13, mg14, mg15, mg16, mg17, mg18, mg19, mg20, mg21, mg22, ms1, ms2, ms3, ms4, ms5, ms6, ms7, ms8, ms9, ms10, ms11, ms12, ms13, ms14, ms15, ms16, ms17, ms18, ms19, ms20, ms21, ms22, mf0, mf1, mf2, mf3, mf4, mf5, mf6, mf7, mf8, mf9, mf10, mf11, mf12, mf13, mf14, mf15, mf16, mf17, mf18, mf19, mf20, mf21, mf22, mf23, mf24, mf25, mf26, mp4, mp7, mp22, mp25, mp26, mq_0, al_I, as_I, zl_Z, zs_0, zs_1, Nat.reduceAdd, Nat.reduceLeDiff, Nat.zero_le, cat_0, cat_i, cat_r, opt_n, opt_s, true_and, nI_add, pk_mul, ua_ua, ua_s, ua_n, not_false_eq_true, Nat.reduceEqDiff, i10, i10n, not_true_eq_false, if_false, if_true, xi_n (show 1 < 2 by omega) (show 2 < 2147483648 by decide), h1] at hX ⊢
                exact hX
            · rw [if_neg y5] at hX ⊢; exact hX
end M8
