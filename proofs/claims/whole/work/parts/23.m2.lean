/-! THE REFERENCE's diagrams: products -/
/-- places that were met -/
def mz (ms : List Nat) (f : Nat → Int32) : Nat → Int32 := fun j => if j ∈ ms then nI 1 else f j
theorem mz_c {ms : List Nat} {f : Nat → Int32} {j : Nat} : upd (mz ms f) j (nI 1) = mz (j :: ms) f := by
  funext q
  by_cases h : q = j
  · subst h; simp [upd, mz]
  · simp [upd, mz, h]
def efa (v a b : Nat) : Nat → Nat → List Nat → Option (Nat × List Nat)
  | 0, _, _ => none
  | n + 1, q, ms => if q < v then some (q, ms) else if v ≤ tR v b (2 * v - 1 - q) then some (tR v b (2 * v - 1 - q), (2 * v - 1 - q) :: ms) else efa v a b n (tR v a (2 * v - 1 - tR v b (2 * v - 1 - q))) (tR v b (2 * v - 1 - q) :: (2 * v - 1 - q) :: ms)
def efb (v a b : Nat) : Nat → Nat → List Nat → Option (Nat × List Nat)
  | 0, _, _ => none
  | n + 1, r, ms => if v ≤ r then some (r, ms) else if tR v a (2 * v - 1 - r) < v then some (tR v a (2 * v - 1 - r), r :: ms) else efb v a b n (tR v b (2 * v - 1 - tR v a (2 * v - 1 - r))) ((2 * v - 1 - tR v a (2 * v - 1 - r)) :: r :: ms)
def mrd (v a b : Nat) : Nat → Nat → List Nat → Option (List Nat)
  | 0, _, _ => none
  | n + 1, t, ms => if t ∈ ms then some ms else if tR v b t < v ∧ v ≤ tR v a (2 * v - 1 - tR v b t) then mrd v a b n (2 * v - 1 - tR v a (2 * v - 1 - tR v b t)) (tR v b t :: t :: ms) else none
def lpr (v a b : Nat) : Nat → Nat → List Nat → List (Nat × Nat) → Option (List Nat × List (Nat × Nat))
  | 0, _, ms, ws => some (ms, ws)
  | n + 1, p, ms, ws => match (if p < v then efa v a b 10 (tR v a p) ms else efb v a b 10 (tR v b p) ms) with
    | some (e, ms') => lpr v a b n (p + 1) ms' ((p, e) :: ws)
    | none => none
def lpc (v a b : Nat) : Nat → Nat → List Nat → Nat → Option Nat
  | 0, _, _, c => some c
  | n + 1, t, ms, c => if t ∈ ms then lpc v a b n (t + 1) ms c else match mrd v a b 10 t ms with
    | some ms' => lpc v a b n (t + 1) ms' (c + 1)
    | none => none
section M2
variable {M : Nat} {A : Nat → Nat → Int32} {g h : ex_Hp} {X : Option Value → ex_Hp → Prop} {v a b : Nat} {f0 : Nat → Int32}
theorem l_efa {l3 : Value} (h1 : 1 ≤ v) (h2 : v ≤ 5) (ha : a < tC v) (hb : b < tC v) (hv : A 1 0 = nI v) (hR : ∀ d, d < tC v → ∀ j, j < 2 * v → A 5 (10 * d + j) = nI (tR v d j)) : ∀ (n q : Nat) (ms : List Nat) (l5 l6 : Value) (res : Nat) (ms' : List Nat), q < 2 * v → efa v a b n q ms = some (res, ms') → X (some (.int (nI res))) (mdl M (ua A 11 (mz ms' f0)) g) →
    ex_W 100 8 [.ref M, .int (nI a), .int (nI b), l3, .int (nI q), l5, l6] [] (mdl M (ua A 11 (mz ms f0)) g) X := by
  have hC := tC_le h1 h2
  intro n
  induction n with
  | zero => intro q ms l5 l6 res ms' hq he; cases he
  | succ n ih =>
    intro q ms l5 l6 res ms' hq he hX
    rw [efa] at he
    rw [s100_8]
    have hm : 2 * v - 1 - q < 2 * v := by omega
    by_cases hqv : q < v
    · rw [if_pos hqv] at he
      cases he
      simp only [s100_0, s100_1, s100_2, s100_3, s100_6, s100_10, s100_11, s100_14, s100_15, s100_16, s100_19, s100_20, s100_22, s100_25, s100_27, s100_28, s100_31, s100_33, s100_34, s100_35, s100_36, s100_37, s100_39, s100_42, s100_44, s100_46, s100_47, s100_50, s100_51, s100_52, s100_55, s100_57, s100_58, s100_59, s100_62, s100_64, s100_65, s100_66, s100_67, s100_68, s100_69, s100_71, s100_74, s100_77, s100_79, s100_82, s100_84, mis, mg1, mg2, mg3, mg4, mg5, mg6, mg7, mg8, mg9, mg10, mg11, mg12, mg13, mg14, mg15, mg16, mg17, mg18, mg19, mg20, mg21, mg22, ms1, ms2, ms3, ms4, ms5, ms6, ms7, ms8, ms9, ms10, ms11, ms12, ms13, ms14, ms15, ms16, ms17, ms18, ms19, ms20, ms21, ms22, mf0, mf1, mf2, mf3, mf4, mf5, mf6, mf7, mf8, mf9, mf10, mf11, mf12, mf13, mf14, mf15, mf16, mf17, mf18, mf19, mf20, mf21, mf22, mf23, mf24, mf25, mf26, mp4, mp7, mp22, mp25, mp26, mq_0, al_I, as_I, zl_Z, zs_0, zs_1, Nat.reduceAdd, Nat.reduceLeDiff, Nat.zero_le, cat_0, cat_i, cat_r, opt_n, opt_s, true_and, nI_add, pk_mul, ua_ua, ua_s, ua_n, not_false_eq_true, Nat.reduceEqDiff, hv, xi_n (show 0 < 213 by decide) (by decide)]
      rw [if_pos ((nI_l2 (by omega) (by omega)).mpr hqv)]
      exact hX
    · rw [if_neg hqv] at he
      have hr := tR_lt h1 h2 hb hm
      have e1 : nI (2 * v) - nI 1 - nI q = nI (2 * v - 1 - q) := by rw [pk_sub (by omega), pk_sub (by omega)]
      simp only [s100_0, s100_1, s100_2, s100_3, s100_6, s100_10, s100_11, s100_14, s100_15, s100_16, s100_19, s100_20, s100_22, s100_25, s100_27, s100_28, s100_31, s100_33, s100_34, s100_35, s100_36, s100_37, s100_39, s100_42, s100_44, s100_46, s100_47, s100_50, s100_51, s100_52, s100_55, s100_57, s100_58, s100_59, s100_62, s100_64, s100_65, s100_66, s100_67, s100_68, s100_69, s100_71, s100_74, s100_77, s100_79, s100_82, s100_84, mis, mg1, mg2, mg3, mg4, mg5, mg6, mg7, mg8, mg9, mg10, mg11, mg12, mg13, mg14, mg15, mg16, mg17, mg18, mg19, mg20, mg21, mg22, ms1, ms2, ms3, ms4, ms5, ms6, ms7, ms8, ms9, ms10, ms11, ms12, ms13, ms14, ms15, ms16, ms17, ms18, ms19, ms20, ms21, ms22, mf0, mf1, mf2, mf3, mf4, mf5, mf6, mf7, mf8, mf9, mf10, mf11, mf12, mf13, mf14, mf15, mf16, mf17, mf18, mf19, mf20, mf21, mf22, mf23, mf24, mf25, mf26, mp4, mp7, mp22, mp25, mp26, mq_0, al_I, as_I, zl_Z, zs_0, zs_1, Nat.reduceAdd, Nat.reduceLeDiff, Nat.zero_le, cat_0, cat_i, cat_r, opt_n, opt_s, true_and, nI_add, pk_mul, ua_ua, ua_s, ua_n, not_false_eq_true, Nat.reduceEqDiff, hv, xi_n (show 0 < 213 by decide) (by decide), r_across, e1, xi_n (show 2 * v - 1 - q < 5 by omega) (show 5 < 2147483648 by decide), r_to (show 10 * b + (2 * v - 1 - q) < 420 by omega), hR b hb _ hm, mz_c]
      rw [if_neg (fun z => hqv ((nI_l2 (by omega) (by omega)).mp z))]
      by_cases hrv : v ≤ tR v b (2 * v - 1 - q)
      · rw [if_pos hrv] at he
        cases he
        rw [if_neg (fun z => absurd ((nI_l2 (by omega) (by omega)).mp z) (by omega))]
        exact hX
      · rw [if_neg hrv] at he
        rw [if_pos ((nI_l2 (by omega) (by omega)).mpr (by omega))]
        have e2 : nI (2 * v) - nI 1 - nI (tR v b (2 * v - 1 - q)) = nI (2 * v - 1 - tR v b (2 * v - 1 - q)) := by rw [pk_sub (by omega), pk_sub (by omega)]
        have hm2 : 2 * v - 1 - tR v b (2 * v - 1 - q) < 2 * v := by omega
        simp only [s100_0, s100_1, s100_2, s100_3, s100_6, s100_10, s100_11, s100_14, s100_15, s100_16, s100_19, s100_20, s100_22, s100_25, s100_27, s100_28, s100_31, s100_33, s100_34, s100_35, s100_36, s100_37, s100_39, s100_42, s100_44, s100_46, s100_47, s100_50, s100_51, s100_52, s100_55, s100_57, s100_58, s100_59, s100_62, s100_64, s100_65, s100_66, s100_67, s100_68, s100_69, s100_71, s100_74, s100_77, s100_79, s100_82, s100_84, mis, mg1, mg2, mg3, mg4, mg5, mg6, mg7, mg8, mg9, mg10, mg11, mg12, mg13, mg14, mg15, mg16, mg17, mg18, mg19, mg20, mg21, mg22, ms1, ms2, ms3, ms4, ms5, ms6, ms7, ms8, ms9, ms10, ms11, ms12, ms13, ms14, ms15, ms16, ms17, ms18, ms19, ms20, ms21, ms22, mf0, mf1, mf2, mf3, mf4, mf5, mf6, mf7, mf8, mf9, mf10, mf11, mf12, mf13, mf14, mf15, mf16, mf17, mf18, mf19, mf20, mf21, mf22, mf23, mf24, mf25, mf26, mp4, mp7, mp22, mp25, mp26, mq_0, al_I, as_I, zl_Z, zs_0, zs_1, Nat.reduceAdd, Nat.reduceLeDiff, Nat.zero_le, cat_0, cat_i, cat_r, opt_n, opt_s, true_and, nI_add, pk_mul, ua_ua, ua_s, ua_n, not_false_eq_true, Nat.reduceEqDiff, e2, xi_n (show tR v b (2 * v - 1 - q) < 5 by omega) (show 5 < 2147483648 by decide), r_to (show 10 * a + (2 * v - 1 - tR v b (2 * v - 1 - q)) < 420 by omega), hR a ha _ hm2, mz_c]
        exact ih _ _ _ _ _ _ (tR_lt h1 h2 ha hm2) he hX
theorem l_efb {l3 : Value} (h1 : 1 ≤ v) (h2 : v ≤ 5) (ha : a < tC v) (hb : b < tC v) (hv : A 1 0 = nI v) (hR : ∀ d, d < tC v → ∀ j, j < 2 * v → A 5 (10 * d + j) = nI (tR v d j)) : ∀ (n q : Nat) (ms : List Nat) (l5 : Value) (res : Nat) (ms' : List Nat), q < 2 * v → efb v a b n q ms = some (res, ms') → X (some (.int (nI res))) (mdl M (ua A 11 (mz ms' f0)) g) →
    ex_W 101 8 [.ref M, .int (nI a), .int (nI b), l3, .int (nI q), l5] [] (mdl M (ua A 11 (mz ms f0)) g) X := by
  have hC := tC_le h1 h2
  intro n
  induction n with
  | zero => intro q ms l5 res ms' hq he; cases he
  | succ n ih =>
    intro q ms l5 res ms' hq he hX
    rw [efb] at he
    rw [s101_8]
    have hm : 2 * v - 1 - q < 2 * v := by omega
    by_cases hqv : v ≤ q
    · rw [if_pos hqv] at he
      cases he
      simp only [s101_0, s101_1, s101_2, s101_3, s101_6, s101_10, s101_11, s101_14, s101_15, s101_16, s101_19, s101_20, s101_23, s101_25, s101_26, s101_27, s101_28, s101_29, s101_30, s101_32, s101_35, s101_38, s101_40, s101_42, s101_43, s101_46, s101_47, s101_48, s101_51, s101_53, s101_54, s101_55, s101_58, s101_59, s101_61, s101_64, s101_65, s101_66, s101_67, s101_68, s101_69, s101_71, s101_74, s101_77, s101_79, s101_82, s101_84, mis, mg1, mg2, mg3, mg4, mg5, mg6, mg7, mg8, mg9, mg10, mg11, mg12, mg13, mg14, mg15, mg16, mg17, mg18, mg19, mg20, mg21, mg22, ms1, ms2, ms3, ms4, ms5, ms6, ms7, ms8, ms9, ms10, ms11, ms12, ms13, ms14, ms15, ms16, ms17, ms18, ms19, ms20, ms21, ms22, mf0, mf1, mf2, mf3, mf4, mf5, mf6, mf7, mf8, mf9, mf10, mf11, mf12, mf13, mf14, mf15, mf16, mf17, mf18, mf19, mf20, mf21, mf22, mf23, mf24, mf25, mf26, mp4, mp7, mp22, mp25, mp26, mq_0, al_I, as_I, zl_Z, zs_0, zs_1, Nat.reduceAdd, Nat.reduceLeDiff, Nat.zero_le, cat_0, cat_i, cat_r, opt_n, opt_s, true_and, nI_add, pk_mul, ua_ua, ua_s, ua_n, not_false_eq_true, Nat.reduceEqDiff, hv, xi_n (show 0 < 213 by decide) (by decide)]
      rw [if_pos ((nI_l1 (by omega) (by omega)).mpr hqv)]
      exact hX
    · rw [if_neg hqv] at he
      have hr := tR_lt h1 h2 ha hm
      have e1 : nI (2 * v) - nI 1 - nI q = nI (2 * v - 1 - q) := by rw [pk_sub (by omega), pk_sub (by omega)]
      simp only [s101_0, s101_1, s101_2, s101_3, s101_6, s101_10, s101_11, s101_14, s101_15, s101_16, s101_19, s101_20, s101_23, s101_25, s101_26, s101_27, s101_28, s101_29, s101_30, s101_32, s101_35, s101_38, s101_40, s101_42, s101_43, s101_46, s101_47, s101_48, s101_51, s101_53, s101_54, s101_55, s101_58, s101_59, s101_61, s101_64, s101_65, s101_66, s101_67, s101_68, s101_69, s101_71, s101_74, s101_77, s101_79, s101_82, s101_84, mis, mg1, mg2, mg3, mg4, mg5, mg6, mg7, mg8, mg9, mg10, mg11, mg12, mg13, mg14, mg15, mg16, mg17, mg18, mg19, mg20, mg21, mg22, ms1, ms2, ms3, ms4, ms5, ms6, ms7, ms8, ms9, ms10, ms11, ms12, ms13, ms14, ms15, ms16, ms17, ms18, ms19, ms20, ms21, ms22, mf0, mf1, mf2, mf3, mf4, mf5, mf6, mf7, mf8, mf9, mf10, mf11, mf12, mf13, mf14, mf15, mf16, mf17, mf18, mf19, mf20, mf21, mf22, mf23, mf24, mf25, mf26, mp4, mp7, mp22, mp25, mp26, mq_0, al_I, as_I, zl_Z, zs_0, zs_1, Nat.reduceAdd, Nat.reduceLeDiff, Nat.zero_le, cat_0, cat_i, cat_r, opt_n, opt_s, true_and, nI_add, pk_mul, ua_ua, ua_s, ua_n, not_false_eq_true, Nat.reduceEqDiff, hv, xi_n (show 0 < 213 by decide) (by decide), r_across, e1, xi_n (show q < 5 by omega) (show 5 < 2147483648 by decide), r_to (show 10 * a + (2 * v - 1 - q) < 420 by omega), hR a ha _ hm, mz_c]
      rw [if_neg (fun z => hqv ((nI_l1 (by omega) (by omega)).mp z))]
      by_cases hrv : tR v a (2 * v - 1 - q) < v
      · rw [if_pos hrv] at he
        cases he
        rw [if_neg (fun z => absurd ((nI_l1 (by omega) (by omega)).mp z) (by omega))]
        exact hX
      · rw [if_neg hrv] at he
        rw [if_pos ((nI_l1 (by omega) (by omega)).mpr (by omega))]
        have e2 : nI (2 * v) - nI 1 - nI (tR v a (2 * v - 1 - q)) = nI (2 * v - 1 - tR v a (2 * v - 1 - q)) := by rw [pk_sub (by omega), pk_sub (by omega)]
        have hm2 : 2 * v - 1 - tR v a (2 * v - 1 - q) < 2 * v := by omega
        simp only [s101_0, s101_1, s101_2, s101_3, s101_6, s101_10, s101_11, s101_14, s101_15, s101_16, s101_19, s101_20, s101_23, s101_25, s101_26, s101_27, s101_28, s101_29, s101_30, s101_32, s101_35, s101_38, s101_40, s101_42, s101_43, s101_46, s101_47, s101_48, s101_51, s101_53, s101_54, s101_55, s101_58, s101_59, s101_61, s101_64, s101_65, s101_66, s101_67, s101_68, s101_69, s101_71, s101_74, s101_77, s101_79, s101_82, s101_84, mis, mg1, mg2, mg3, mg4, mg5, mg6, mg7, mg8, mg9, mg10, mg11, mg12, mg13, mg14, mg15, mg16, mg17, mg18, mg19, mg20, mg21, mg22, ms1, ms2, ms3, ms4, ms5, ms6, ms7, ms8, ms9, ms10, ms11, ms12, ms13, ms14, ms15, ms16, ms17, ms18, ms19, ms20, ms21, ms22, mf0, mf1, mf2, mf3, mf4, mf5, mf6, mf7, mf8, mf9, mf10, mf11, mf12, mf13, mf14, mf15, mf16, mf17, mf18, mf19, mf20, mf21, mf22, mf23, mf24, mf25, mf26, mp4, mp7, mp22, mp25, mp26, mq_0, al_I, as_I, zl_Z, zs_0, zs_1, Nat.reduceAdd, Nat.reduceLeDiff, Nat.zero_le, cat_0, cat_i, cat_r, opt_n, opt_s, true_and, nI_add, pk_mul, ua_ua, ua_s, ua_n, not_false_eq_true, Nat.reduceEqDiff, e2, xi_n (show 2 * v - 1 - tR v a (2 * v - 1 - q) < 5 by omega) (show 5 < 2147483648 by decide), r_to (show 10 * b + (2 * v - 1 - tR v a (2 * v - 1 - q)) < 420 by omega), hR b hb _ hm2, mz_c]
        exact ih _ _ _ _ _ (tR_lt h1 h2 hb hm2) he hX
theorem l_mrd {l3 : Value} (h1 : 1 ≤ v) (h2 : v ≤ 5) (ha : a < tC v) (hb : b < tC v) (hv : A 1 0 = nI v) (hf0 : ∀ j, j < v → f0 j = nI 0) (hR : ∀ d, d < tC v → ∀ j, j < 2 * v → A 5 (10 * d + j) = nI (tR v d j)) : ∀ (n t : Nat) (ms : List Nat) (l5 : Value) (ms' : List Nat), t < v → mrd v a b n t ms = some ms' → X none (mdl M (ua A 11 (mz ms' f0)) g) →
    ex_W 102 3 [.ref M, .int (nI a), .int (nI b), l3, .int (nI t), l5] [] (mdl M (ua A 11 (mz ms f0)) g) X := by
  have hC := tC_le h1 h2
  intro n
  induction n with
  | zero => intro t ms l5 ms' ht he; cases he
  | succ n ih =>
    intro t ms l5 ms' ht he hX
    rw [mrd] at he
    rw [s102_3]
    by_cases hm : t ∈ ms
    · rw [if_pos hm] at he
      cases he
      have e0 : mz ms f0 t = nI 1 := if_pos hm
      simp only [s102_0, s102_1, s102_4, s102_7, s102_9, s102_10, s102_13, s102_14, s102_17, s102_19, s102_20, s102_21, s102_22, s102_23, s102_25, s102_28, s102_30, s102_31, s102_34, s102_36, s102_37, s102_38, s102_39, s102_40, s102_41, s102_42, s102_44, s102_47, s102_50, s102_53, s102_55, s102_58, mis, mg1, mg2, mg3, mg4, mg5, mg6, mg7, mg8, mg9, mg10, mg11, mg12, mg13, mg14, mg15, mg16, mg17, mg18, mg19, mg20, mg21, mg22, ms1, ms2, ms3, ms4, ms5, ms6, ms7, ms8, ms9, ms10, ms11, ms12, ms13, ms14, ms15, ms16, ms17, ms18, ms19, ms20, ms21, ms22, mf0, mf1, mf2, mf3, mf4, mf5, mf6, mf7, mf8, mf9, mf10, mf11, mf12, mf13, mf14, mf15, mf16, mf17, mf18, mf19, mf20, mf21, mf22, mf23, mf24, mf25, mf26, mp4, mp7, mp22, mp25, mp26, mq_0, al_I, as_I, zl_Z, zs_0, zs_1, Nat.reduceAdd, Nat.reduceLeDiff, Nat.zero_le, cat_0, cat_i, cat_r, opt_n, opt_s, true_and, nI_add, pk_mul, ua_ua, ua_s, ua_n, not_false_eq_true, Nat.reduceEqDiff, xi_n (show t < 5 by omega) (show 5 < 2147483648 by decide), e0]
      rw [if_pos (by decide)]
      exact hX
    · rw [if_neg hm] at he
      have e0 : mz ms f0 t = nI 0 := (if_neg hm).trans (hf0 t ht)
      by_cases hc : tR v b t < v ∧ v ≤ tR v a (2 * v - 1 - tR v b t)
      · rw [if_pos hc] at he
        obtain ⟨hc1, hc2⟩ := hc
        have hm2 : 2 * v - 1 - tR v b t < 2 * v := by omega
        have hr2 := tR_lt h1 h2 ha hm2
        have e1 : nI (2 * v) - nI 1 - nI (tR v b t) = nI (2 * v - 1 - tR v b t) := by rw [pk_sub (by omega), pk_sub (by omega)]
        have e2 : nI (2 * v) - nI 1 - nI (tR v a (2 * v - 1 - tR v b t)) = nI (2 * v - 1 - tR v a (2 * v - 1 - tR v b t)) := by rw [pk_sub (by omega), pk_sub (by omega)]
        simp only [s102_0, s102_1, s102_4, s102_7, s102_9, s102_10, s102_13, s102_14, s102_17, s102_19, s102_20, s102_21, s102_22, s102_23, s102_25, s102_28, s102_30, s102_31, s102_34, s102_36, s102_37, s102_38, s102_39, s102_40, s102_41, s102_42, s102_44, s102_47, s102_50, s102_53, s102_55, s102_58, mis, mg1, mg2, mg3, mg4, mg5, mg6, mg7, mg8, mg9, mg10, mg11, mg12, mg13, mg14, mg15, mg16, mg17, mg18, mg19, mg20, mg21, mg22, ms1, ms2, ms3, ms4, ms5, ms6, ms7, ms8, ms9, ms10, ms11, ms12, ms13, ms14, ms15, ms16, ms17, ms18, ms19, ms20, ms21, ms22, mf0, mf1, mf2, mf3, mf4, mf5, mf6, mf7, mf8, mf9, mf10, mf11, mf12, mf13, mf14, mf15, mf16, mf17, mf18, mf19, mf20, mf21, mf22, mf23, mf24, mf25, mf26, mp4, mp7, mp22, mp25, mp26, mq_0, al_I, as_I, zl_Z, zs_0, zs_1, Nat.reduceAdd, Nat.reduceLeDiff, Nat.zero_le, cat_0, cat_i, cat_r, opt_n, opt_s, true_and, nI_add, pk_mul, ua_ua, ua_s, ua_n, not_false_eq_true, Nat.reduceEqDiff, xi_n (show t < 5 by omega) (show 5 < 2147483648 by decide), e0, mz_c, r_to (show 10 * b + t < 420 by omega), hR b hb t (by omega), xi_n (show tR v b t < 5 by omega) (show 5 < 2147483648 by decide), r_across, hv, e1, r_to (show 10 * a + (2 * v - 1 - tR v b t) < 420 by omega), hR a ha _ hm2, e2]
        rw [if_neg (fun z => z trivial)]
        exact ih _ _ _ _ (by omega) he hX
      · rw [if_neg hc] at he
        cases he
/-- the text of a row -/
def txo (w : Nat → Nat) : Nat → Nat → Nat → Nat
  | 0, _, acc => acc
  | n + 1, p, acc => txo w n (p + 1) (2 * acc + (if p < w p then 0 else 1))
theorem l_txo {w : Nat → Nat} (h1 : 1 ≤ v) (h2 : v ≤ 5) (hv : A 1 0 = nI v) (hw : ∀ j, j < 2 * v → A 9 j = nI (w j)) (hwl : ∀ j, j < 2 * v → w j < 1000) : ∀ (n p acc : Nat), n + p = 2 * v → acc < 2 ^ p → X (some (.int (nI (txo w n p acc)))) (mdl M A g) →
    ex_W 95 4 [.ref M, .int (nI acc), .int (nI p)] [] (mdl M A g) X := by
  intro n
  induction n with
  | zero =>
    intro p acc hn hacc hX
    obtain rfl : p = 2 * v := by omega
    rw [s95_4]
    simp only [s95_0, s95_1, s95_2, s95_3, s95_5, s95_6, s95_9, s95_12, s95_13, s95_14, s95_15, s95_16, s95_19, s95_20, s95_21, s95_22, s95_25, s95_26, s95_29, s95_30, s95_31, s95_32, s95_35, s95_38, s95_39, mis, mg1, mg2, mg3, mg4, mg5, mg6, mg7, mg8, mg9, mg10, mg11, mg12, mg13, mg14, mg15, mg16, mg17, mg18, mg19, mg20, mg21, mg22, ms1, ms2, ms3, ms4, ms5, ms6, ms7, ms8, ms9, ms10, ms11, ms12, ms13, ms14, ms15, ms16, ms17, ms18, ms19, ms20, ms21, ms22, mf0, mf1, mf2, mf3, mf4, mf5, mf6, mf7, mf8, mf9, mf10, mf11, mf12, mf13, mf14, mf15, mf16, mf17, mf18, mf19, mf20, mf21, mf22, mf23, mf24, mf25, mf26, mp4, mp7, mp22, mp25, mp26, mq_0, al_I, as_I, zl_Z, zs_0, zs_1, Nat.reduceAdd, Nat.reduceLeDiff, Nat.zero_le, cat_0, cat_i, cat_r, opt_n, opt_s, true_and, nI_add, pk_mul, ua_ua, ua_s, ua_n, not_false_eq_true, Nat.reduceEqDiff, r_points, hv]
    rw [if_pos ((nI_l1 (by omega) (by omega)).mpr (by omega))]
    exact hX
  | succ n ih =>
    intro p acc hn hacc hX
    have hpow : 2 ^ p ≤ 2 ^ 10 := Nat.pow_le_pow_right (by decide) (by omega)
    rw [s95_4]
    simp only [s95_0, s95_1, s95_2, s95_3, s95_5, s95_6, s95_9, s95_12, s95_13, s95_14, s95_15, s95_16, s95_19, s95_20, s95_21, s95_22, s95_25, s95_26, s95_29, s95_30, s95_31, s95_32, s95_35, s95_38, s95_39, mis, mg1, mg2, mg3, mg4, mg5, mg6, mg7, mg8, mg9, mg10, mg11, mg12, mg13, mg14, mg15, mg16, mg17, mg18, mg19, mg20, mg21, mg22, ms1, ms2, ms3, ms4, ms5, ms6, ms7, ms8, ms9, ms10, ms11, ms12, ms13, ms14, ms15, ms16, ms17, ms18, ms19, ms20, ms21, ms22, mf0, mf1, mf2, mf3, mf4, mf5, mf6, mf7, mf8, mf9, mf10, mf11, mf12, mf13, mf14, mf15, mf16, mf17, mf18, mf19, mf20, mf21, mf22, mf23, mf24, mf25, mf26, mp4, mp7, mp22, mp25, mp26, mq_0, al_I, as_I, zl_Z, zs_0, zs_1, Nat.reduceAdd, Nat.reduceLeDiff, Nat.zero_le, cat_0, cat_i, cat_r, opt_n, opt_s, true_and, nI_add, pk_mul, ua_ua, ua_s, ua_n, not_false_eq_true, Nat.reduceEqDiff, r_points, hv, xi_n (show p < 10 by omega) (show 10 < 2147483648 by decide), hw p (by omega)]
    rw [if_neg (fun z => absurd ((nI_l1 (by omega) (by omega)).mp z) (by omega))]
    rw [txo] at hX
    have hwp := hwl p (by omega)
    by_cases hp : p < w p
    · rw [if_neg (fun z => absurd ((nI_l1 (by omega) (by omega)).mp z) (by omega))]
      rw [if_pos hp] at hX
      exact ih (p + 1) _ (by omega) (by rw [Nat.pow_succ]; omega) hX
    · rw [if_pos ((nI_l1 (by omega) (by omega)).mpr (by omega))]
      rw [if_neg hp] at hX
      exact ih (p + 1) _ (by omega) (by rw [Nat.pow_succ]; omega) hX
theorem tTxo_k : all5 (fun v => allN (tC v) (fun d => decide (txo (tR v d) (2 * v) 0 0 = tCode v d))) = true := by decide +kernel
theorem tTxo {d : Nat} (h1 : 1 ≤ v) (h2 : v ≤ 5) (hd : d < tC v) : txo (tR v d) (2 * v) 0 0 = tCode v d := of_decide_eq_true (allN_of (all5_of tTxo_k h1 h2) hd)
theorem r_indexOfRow {d : Nat} (h1 : 1 ≤ v) (h2 : v ≤ 5) (hd : d < tC v) (hv : A 1 0 = nI v) (hw : ∀ j, j < 2 * v → A 9 j = nI (tR v d j)) (hN : A 6 (tCode v d) = nI d) (hX : X (some (.int (nI d))) (mdl M A g)) : ex_W 96 0 [.ref M] [] (mdl M A g) X := by
  have hc := (tCode_lt h1 h2 hd).1
  have hpow : 2 ^ (2 * v) ≤ 2 ^ 10 := Nat.pow_le_pow_right (by decide) (by omega)
  simp only [s96_0, s96_1, s96_4, s96_5, s96_8, s96_9, mis, mg1, mg2, mg3, mg4, mg5, mg6, mg7, mg8, mg9, mg10, mg11, mg12, mg13, mg14, mg15, mg16, mg17, mg18, mg19, mg20, mg21, mg22, ms1, ms2, ms3, ms4, ms5, ms6, ms7, ms8, ms9, ms10, ms11, ms12, ms13, ms14, ms15, ms16, ms17, ms18, ms19, ms20, ms21, ms22, mf0, mf1, mf2, mf3, mf4, mf5, mf6, mf7, mf8, mf9, mf10, mf11, mf12, mf13, mf14, mf15, mf16, mf17, mf18, mf19, mf20, mf21, mf22, mf23, mf24, mf25, mf26, mp4, mp7, mp22, mp25, mp26, mq_0, al_I, as_I, zl_Z, zs_0, zs_1, Nat.reduceAdd, Nat.reduceLeDiff, Nat.zero_le, cat_0, cat_i, cat_r, opt_n, opt_s, true_and, nI_add, pk_mul, ua_ua, ua_s, ua_n, not_false_eq_true, Nat.reduceEqDiff, s95_0, s95_1, s95_2, s95_3]
  refine l_txo h1 h2 hv hw (fun j hj => by have := tR_lt h1 h2 hd hj; omega) (2 * v) 0 0 (by omega) (by decide) ?_
  rw [tTxo h1 h2 hd]
  simp only [s96_0, s96_1, s96_4, s96_5, s96_8, s96_9, mis, mg1, mg2, mg3, mg4, mg5, mg6, mg7, mg8, mg9, mg10, mg11, mg12, mg13, mg14, mg15, mg16, mg17, mg18, mg19, mg20, mg21, mg22, ms1, ms2, ms3, ms4, ms5, ms6, ms7, ms8, ms9, ms10, ms11, ms12, ms13, ms14, ms15, ms16, ms17, ms18, ms19, ms20, ms21, ms22, mf0, mf1, mf2, mf3, mf4, mf5, mf6, mf7, mf8, mf9, mf10, mf11, mf12, mf13, mf14, mf15, mf16, mf17, mf18, mf19, mf20, mf21, mf22, mf23, mf24, mf25, mf26, mp4, mp7, mp22, mp25, mp26, mq_0, al_I, as_I, zl_Z, zs_0, zs_1, Nat.reduceAdd, Nat.reduceLeDiff, Nat.zero_le, cat_0, cat_i, cat_r, opt_n, opt_s, true_and, nI_add, pk_mul, ua_ua, ua_s, ua_n, not_false_eq_true, Nat.reduceEqDiff, xi_n (show tCode v d < 1024 by omega) (by decide), hN]
  exact hX
theorem tLp_k : all5 (fun v => allN (tC v) (fun a => allN (tC v) (fun b => match lpr v a b (2 * v) 0 [] [] with
  | some (ms, ws) => allN (2 * v) (fun j => decide (ws.lookup j = some (tR v (tP v a b) j))) && decide (lpc v a b v 0 ms 0 = some (tQ v a b))
  | none => false))) = true := by decide +kernel
theorem tLp (h1 : 1 ≤ v) (h2 : v ≤ 5) (ha : a < tC v) (hb : b < tC v) : ∃ ms ws, lpr v a b (2 * v) 0 [] [] = some (ms, ws) ∧ (∀ j, j < 2 * v → ws.lookup j = some (tR v (tP v a b) j)) ∧ lpc v a b v 0 ms 0 = some (tQ v a b) := by
  have q := allN_of (allN_of (all5_of tLp_k h1 h2) ha) hb
  cases hl : lpr v a b (2 * v) 0 [] [] with
  | none => rw [hl] at q; cases q
  | some x =>
    obtain ⟨ms, ws⟩ := x
    rw [hl] at q
    simp only [Bool.and_eq_true, decide_eq_true_eq] at q
    exact ⟨ms, ws, rfl, fun j hj => of_decide_eq_true (allN_of q.1 hj), q.2⟩
theorem l_lp79 (h1 : 1 ≤ v) (h2 : v ≤ 5) (ha : a < tC v) (hb : b < tC v) (hv : A 1 0 = nI v) (hf0 : ∀ j, j < v → f0 j = nI 0) (hR : ∀ d, d < tC v → ∀ j, j < 2 * v → A 5 (10 * d + j) = nI (tR v d j)) {res : Nat} : ∀ (n t : Nat) (ms : List Nat) (cnt : Nat), n + t = v → cnt ≤ t → lpc v a b n t ms cnt = some res → (∀ f, ex_W 103 117 [.ref M, .int (nI a), .int (nI b), .int (nI res), .int (nI v)] [] (mdl M (ua A 11 f) g) X) →
    ex_W 103 79 [.ref M, .int (nI a), .int (nI b), .int (nI cnt), .int (nI t)] [] (mdl M (ua A 11 (mz ms f0)) g) X := by
  have hC := tC_le h1 h2
  intro n
  induction n with
  | zero =>
    intro t ms cnt hn hc he hX
    obtain rfl : t = v := by omega
    rw [lpc] at he
    cases he
    rw [s103_79]
    simp only [s103_0, s103_1, s103_2, s103_3, s103_4, s103_7, s103_8, s103_9, s103_12, s103_13, s103_16, s103_17, s103_18, s103_19, s103_22, s103_25, s103_26, s103_27, s103_28, s103_29, s103_32, s103_35, s103_36, s103_39, s103_40, s103_41, s103_42, s103_45, s103_46, s103_47, s103_50, s103_51, s103_52, s103_53, s103_54, s103_57, s103_60, s103_61, s103_62, s103_63, s103_64, s103_67, s103_68, s103_71, s103_74, s103_75, s103_76, s103_77, s103_81, s103_82, s103_85, s103_86, s103_87, s103_90, s103_91, s103_94, s103_96, s103_97, s103_100, s103_101, s103_102, s103_103, s103_105, s103_108, s103_111, s103_114, s103_118, s103_121, s103_123, s103_124, s103_125, s103_126, s103_127, s103_128, s103_131, s103_132, s103_133, s103_136, s103_138, s103_139, s103_140, s103_141, s103_142, s103_143, s103_144, mis, mg1, mg2, mg3, mg4, mg5, mg6, mg7, mg8, mg9, mg10, mg11, mg12, mg13, mg14, mg15, mg16, mg17, mg18, mg19, mg20, mg21, mg22, ms1, ms2, ms3, ms4, ms5, ms6, ms7, ms8, ms9, ms10, ms11, ms12, ms13, ms14, ms15, ms16, ms17, ms18, ms19, ms20, ms21, ms22, mf0, mf1, mf2, mf3, mf4, mf5, mf6, mf7, mf8, mf9, mf10, mf11, mf12, mf13, mf14, mf15, mf16, mf17, mf18, mf19, mf20, mf21, mf22, mf23, mf24, mf25, mf26, mp4, mp7, mp22, mp25, mp26, mq_0, al_I, as_I, zl_Z, zs_0, zs_1, Nat.reduceAdd, Nat.reduceLeDiff, Nat.zero_le, cat_0, cat_i, cat_r, opt_n, opt_s, true_and, nI_add, pk_mul, ua_ua, ua_s, ua_n, not_false_eq_true, Nat.reduceEqDiff, hv, xi_n (show 0 < 213 by decide) (by decide)]
    rw [if_pos ((nI_l1 (by omega) (by omega)).mpr (by omega))]
    exact hX _
  | succ n ih =>
    intro t ms cnt hn hc he hX
    rw [lpc] at he
    rw [s103_79]
    by_cases hm : t ∈ ms
    · rw [if_pos hm] at he
      have e0 : mz ms f0 t = nI 1 := if_pos hm
      simp only [s103_0, s103_1, s103_2, s103_3, s103_4, s103_7, s103_8, s103_9, s103_12, s103_13, s103_16, s103_17, s103_18, s103_19, s103_22, s103_25, s103_26, s103_27, s103_28, s103_29, s103_32, s103_35, s103_36, s103_39, s103_40, s103_41, s103_42, s103_45, s103_46, s103_47, s103_50, s103_51, s103_52, s103_53, s103_54, s103_57, s103_60, s103_61, s103_62, s103_63, s103_64, s103_67, s103_68, s103_71, s103_74, s103_75, s103_76, s103_77, s103_81, s103_82, s103_85, s103_86, s103_87, s103_90, s103_91, s103_94, s103_96, s103_97, s103_100, s103_101, s103_102, s103_103, s103_105, s103_108, s103_111, s103_114, s103_118, s103_121, s103_123, s103_124, s103_125, s103_126, s103_127, s103_128, s103_131, s103_132, s103_133, s103_136, s103_138, s103_139, s103_140, s103_141, s103_142, s103_143, s103_144, mis, mg1, mg2, mg3, mg4, mg5, mg6, mg7, mg8, mg9, mg10, mg11, mg12, mg13, mg14, mg15, mg16, mg17, mg18, mg19, mg20, mg21, mg22, ms1, ms2, ms3, ms4, ms5, ms6, ms7, ms8, ms9, ms10, ms11, ms12, ms13, ms14, ms15, ms16, ms17, ms18, ms19, ms20, ms21, ms22, mf0, mf1, mf2, mf3, mf4, mf5, mf6, mf7, mf8, mf9, mf10, mf11, mf12, mf13, mf14, mf15, mf16, mf17, mf18, mf19, mf20, mf21, mf22, mf23, mf24, mf25, mf26, mp4, mp7, mp22, mp25, mp26, mq_0, al_I, as_I, zl_Z, zs_0, zs_1, Nat.reduceAdd, Nat.reduceLeDiff, Nat.zero_le, cat_0, cat_i, cat_r, opt_n, opt_s, true_and, nI_add, pk_mul, ua_ua, ua_s, ua_n, not_false_eq_true, Nat.reduceEqDiff, hv, xi_n (show 0 < 213 by decide) (show 213 < 2147483648 by decide), xi_n (show t < 5 by omega) (show 5 < 2147483648 by decide), e0]
      rw [if_neg (fun z => absurd ((nI_l1 (by omega) (by omega)).mp z) (by omega)), if_pos (by decide)]
      exact ih (t + 1) ms cnt (by omega) (by omega) he hX
    · rw [if_neg hm] at he
      have e0 : mz ms f0 t = nI 0 := (if_neg hm).trans (hf0 t (by omega))
      cases hmr : mrd v a b 10 t ms with
      | none => rw [hmr] at he; cases he
      | some ms' =>
        rw [hmr] at he
        simp only [s103_0, s103_1, s103_2, s103_3, s103_4, s103_7, s103_8, s103_9, s103_12, s103_13, s103_16, s103_17, s103_18, s103_19, s103_22, s103_25, s103_26, s103_27, s103_28, s103_29, s103_32, s103_35, s103_36, s103_39, s103_40, s103_41, s103_42, s103_45, s103_46, s103_47, s103_50, s103_51, s103_52, s103_53, s103_54, s103_57, s103_60, s103_61, s103_62, s103_63, s103_64, s103_67, s103_68, s103_71, s103_74, s103_75, s103_76, s103_77, s103_81, s103_82, s103_85, s103_86, s103_87, s103_90, s103_91, s103_94, s103_96, s103_97, s103_100, s103_101, s103_102, s103_103, s103_105, s103_108, s103_111, s103_114, s103_118, s103_121, s103_123, s103_124, s103_125, s103_126, s103_127, s103_128, s103_131, s103_132, s103_133, s103_136, s103_138, s103_139, s103_140, s103_141, s103_142, s103_143, s103_144, mis, mg1, mg2, mg3, mg4, mg5, mg6, mg7, mg8, mg9, mg10, mg11, mg12, mg13, mg14, mg15, mg16, mg17, mg18, mg19, mg20, mg21, mg22, ms1, ms2, ms3, ms4, ms5, ms6, ms7, ms8, ms9, ms10, ms11, ms12, ms13, ms14, ms15, ms16, ms17, ms18, ms19, ms20, ms21, ms22, mf0, mf1, mf2, mf3, mf4, mf5, mf6, mf7, mf8, mf9, mf10, mf11, mf12, mf13, mf14, mf15, mf16, mf17, mf18, mf19, mf20, mf21, mf22, mf23, mf24, mf25, mf26, mp4, mp7, mp22, mp25, mp26, mq_0, al_I, as_I, zl_Z, zs_0, zs_1, Nat.reduceAdd, Nat.reduceLeDiff, Nat.zero_le, cat_0, cat_i, cat_r, opt_n, opt_s, true_and, nI_add, pk_mul, ua_ua, ua_s, ua_n, not_false_eq_true, Nat.reduceEqDiff, hv, xi_n (show 0 < 213 by decide) (show 213 < 2147483648 by decide), xi_n (show t < 5 by omega) (show 5 < 2147483648 by decide), e0, s102_0, s102_1]
        rw [if_neg (fun z => absurd ((nI_l1 (by omega) (by omega)).mp z) (by omega)), if_neg (fun z => z trivial)]
        refine l_mrd h1 h2 ha hb hv hf0 hR 10 t ms _ ms' (by omega) hmr ?_
        simp only [s103_0, s103_1, s103_2, s103_3, s103_4, s103_7, s103_8, s103_9, s103_12, s103_13, s103_16, s103_17, s103_18, s103_19, s103_22, s103_25, s103_26, s103_27, s103_28, s103_29, s103_32, s103_35, s103_36, s103_39, s103_40, s103_41, s103_42, s103_45, s103_46, s103_47, s103_50, s103_51, s103_52, s103_53, s103_54, s103_57, s103_60, s103_61, s103_62, s103_63, s103_64, s103_67, s103_68, s103_71, s103_74, s103_75, s103_76, s103_77, s103_81, s103_82, s103_85, s103_86, s103_87, s103_90, s103_91, s103_94, s103_96, s103_97, s103_100, s103_101, s103_102, s103_103, s103_105, s103_108, s103_111, s103_114, s103_118, s103_121, s103_123, s103_124, s103_125, s103_126, s103_127, s103_128, s103_131, s103_132, s103_133, s103_136, s103_138, s103_139, s103_140, s103_141, s103_142, s103_143, s103_144, mis, mg1, mg2, mg3, mg4, mg5, mg6, mg7, mg8, mg9, mg10, mg11, mg12, mg13, mg14, mg15, mg16, mg17, mg18, mg19, mg20, mg21, mg22, ms1, ms2, ms3, ms4, ms5, ms6, ms7, ms8, ms9, ms10, ms11, ms12, ms13, ms14, ms15, ms16, ms17, ms18, ms19, ms20, ms21, ms22, mf0, mf1, mf2, mf3, mf4, mf5, mf6, mf7, mf8, mf9, mf10, mf11, mf12, mf13, mf14, mf15, mf16, mf17, mf18, mf19, mf20, mf21, mf22, mf23, mf24, mf25, mf26, mp4, mp7, mp22, mp25, mp26, mq_0, al_I, as_I, zl_Z, zs_0, zs_1, Nat.reduceAdd, Nat.reduceLeDiff, Nat.zero_le, cat_0, cat_i, cat_r, opt_n, opt_s, true_and, nI_add, pk_mul, ua_ua, ua_s, ua_n, not_false_eq_true, Nat.reduceEqDiff]
        exact ih (t + 1) ms' (cnt + 1) (by omega) (by omega) he hX
theorem l_lp27 {W0 : Nat → Int32} (h1 : 1 ≤ v) (h2 : v ≤ 5) (ha : a < tC v) (hb : b < tC v) (hv : A 1 0 = nI v) (hR : ∀ d, d < tC v → ∀ j, j < 2 * v → A 5 (10 * d + j) = nI (tR v d j)) {mr1 : List Nat} {ws1 : List (Nat × Nat)} : ∀ (n p : Nat) (ms : List Nat) (ws : List (Nat × Nat)), n + p = 2 * v → lpr v a b n p ms ws = some (mr1, ws1) → ex_W 103 74 [.ref M, .int (nI a), .int (nI b), .int (nI (2 * v)), oU] [] (mdl M (ua (ua A 9 (wr ws1 W0)) 11 (mz mr1 f0)) g) X →
    ex_W 103 27 [.ref M, .int (nI a), .int (nI b), .int (nI p), oU] [] (mdl M (ua (ua A 9 (wr ws W0)) 11 (mz ms f0)) g) X := by
  have hC := tC_le h1 h2
  intro n
  induction n with
  | zero =>
    intro p ms ws hn he hX
    obtain rfl : p = 2 * v := by omega
    rw [lpr] at he
    cases he
    rw [s103_27]
    simp only [s103_0, s103_1, s103_2, s103_3, s103_4, s103_7, s103_8, s103_9, s103_12, s103_13, s103_16, s103_17, s103_18, s103_19, s103_22, s103_25, s103_26, s103_28, s103_29, s103_32, s103_35, s103_36, s103_39, s103_40, s103_41, s103_42, s103_45, s103_46, s103_47, s103_50, s103_51, s103_52, s103_53, s103_54, s103_57, s103_60, s103_61, s103_62, s103_63, s103_64, s103_67, s103_68, s103_71, s103_75, s103_76, s103_77, s103_79, s103_81, s103_82, s103_85, s103_86, s103_87, s103_90, s103_91, s103_94, s103_96, s103_97, s103_100, s103_101, s103_102, s103_103, s103_105, s103_108, s103_111, s103_114, s103_117, s103_118, s103_121, s103_123, s103_124, s103_125, s103_126, s103_127, s103_128, s103_131, s103_132, s103_133, s103_136, s103_138, s103_139, s103_140, s103_141, s103_142, s103_143, s103_144, mis, mg1, mg2, mg3, mg4, mg5, mg6, mg7, mg8, mg9, mg10, mg11, mg12, mg13, mg14, mg15, mg16, mg17, mg18, mg19, mg20, mg21, mg22, ms1, ms2, ms3, ms4, ms5, ms6, ms7, ms8, ms9, ms10, ms11, ms12, ms13, ms14, ms15, ms16, ms17, ms18, ms19, ms20, ms21, ms22, mf0, mf1, mf2, mf3, mf4, mf5, mf6, mf7, mf8, mf9, mf10, mf11, mf12, mf13, mf14, mf15, mf16, mf17, mf18, mf19, mf20, mf21, mf22, mf23, mf24, mf25, mf26, mp4, mp7, mp22, mp25, mp26, mq_0, al_I, as_I, zl_Z, zs_0, zs_1, Nat.reduceAdd, Nat.reduceLeDiff, Nat.zero_le, cat_0, cat_i, cat_r, opt_n, opt_s, true_and, nI_add, pk_mul, ua_ua, ua_s, ua_n, not_false_eq_true, Nat.reduceEqDiff, r_points, hv]
    rw [if_pos ((nI_l1 (by omega) (by omega)).mpr (by omega))]
    exact hX
  | succ n ih =>
    intro p ms ws hn he hX
    rw [lpr] at he
    have hR' : ∀ d, d < tC v → ∀ j, j < 2 * v → (ua A 9 (wr ws W0)) 5 (10 * d + j) = nI (tR v d j) := fun d hd j hj => by rw [ua_n (by decide)]; exact hR d hd j hj
    have hv' : (ua A 9 (wr ws W0)) 1 0 = nI v := by rw [ua_n (by decide)]; exact hv
    rw [s103_27]
    simp only [s103_0, s103_1, s103_2, s103_3, s103_4, s103_7, s103_8, s103_9, s103_12, s103_13, s103_16, s103_17, s103_18, s103_19, s103_22, s103_25, s103_26, s103_28, s103_29, s103_32, s103_35, s103_36, s103_39, s103_40, s103_41, s103_42, s103_45, s103_46, s103_47, s103_50, s103_51, s103_52, s103_53, s103_54, s103_57, s103_60, s103_61, s103_62, s103_63, s103_64, s103_67, s103_68, s103_71, s103_75, s103_76, s103_77, s103_79, s103_81, s103_82, s103_85, s103_86, s103_87, s103_90, s103_91, s103_94, s103_96, s103_97, s103_100, s103_101, s103_102, s103_103, s103_105, s103_108, s103_111, s103_114, s103_117, s103_118, s103_121, s103_123, s103_124, s103_125, s103_126, s103_127, s103_128, s103_131, s103_132, s103_133, s103_136, s103_138, s103_139, s103_140, s103_141, s103_142, s103_143, s103_144, mis, mg1, mg2, mg3, mg4, mg5, mg6, mg7, mg8, mg9, mg10, mg11, mg12, mg13, mg14, mg15, mg16, mg17, mg18, mg19, mg20, mg21, mg22, ms1, ms2, ms3, ms4, ms5, ms6, ms7, ms8, ms9, ms10, ms11, ms12, ms13, ms14, ms15, ms16, ms17, ms18, ms19, ms20, ms21, ms22, mf0, mf1, mf2, mf3, mf4, mf5, mf6, mf7, mf8, mf9, mf10, mf11, mf12, mf13, mf14, mf15, mf16, mf17, mf18, mf19, mf20, mf21, mf22, mf23, mf24, mf25, mf26, mp4, mp7, mp22, mp25, mp26, mq_0, al_I, as_I, zl_Z, zs_0, zs_1, Nat.reduceAdd, Nat.reduceLeDiff, Nat.zero_le, cat_0, cat_i, cat_r, opt_n, opt_s, true_and, nI_add, pk_mul, ua_ua, ua_s, ua_n, not_false_eq_true, Nat.reduceEqDiff, r_points, hv, xi_n (show 0 < 213 by decide) (show 213 < 2147483648 by decide), s100_0, s100_1, s100_2, s100_3, s100_6, s101_0, s101_1, s101_2, s101_3, s101_6]
    rw [if_neg (fun z => absurd ((nI_l1 (by omega) (by omega)).mp z) (by omega))]
    have key : ∀ e ms', lpr v a b n (p + 1) ms' ((p, e) :: ws) = some (mr1, ws1) → ex_W 103 67 [.ref M, .int (nI a), .int (nI b), .int (nI p), oU] [.int (nI e), .int (nI p), .ref (M + 9)] (mdl M (ua (ua A 9 (wr ws W0)) 11 (mz ms' f0)) g) X := by
      intro e ms' hl
      have := ih (p + 1) ms' _ (by omega) hl hX
      rw [wr_cons] at this
      simp only [s103_0, s103_1, s103_2, s103_3, s103_4, s103_7, s103_8, s103_9, s103_12, s103_13, s103_16, s103_17, s103_18, s103_19, s103_22, s103_25, s103_26, s103_28, s103_29, s103_32, s103_35, s103_36, s103_39, s103_40, s103_41, s103_42, s103_45, s103_46, s103_47, s103_50, s103_51, s103_52, s103_53, s103_54, s103_57, s103_60, s103_61, s103_62, s103_63, s103_64, s103_67, s103_68, s103_71, s103_75, s103_76, s103_77, s103_79, s103_81, s103_82, s103_85, s103_86, s103_87, s103_90, s103_91, s103_94, s103_96, s103_97, s103_100, s103_101, s103_102, s103_103, s103_105, s103_108, s103_111, s103_114, s103_117, s103_118, s103_121, s103_123, s103_124, s103_125, s103_126, s103_127, s103_128, s103_131, s103_132, s103_133, s103_136, s103_138, s103_139, s103_140, s103_141, s103_142, s103_143, s103_144, mis, mg1, mg2, mg3, mg4, mg5, mg6, mg7, mg8, mg9, mg10, mg11, mg12, mg13, mg14, mg15, mg16, mg17, mg18, mg19, mg20, mg21, mg22, ms1, ms2, ms3, ms4, ms5, ms6, ms7, ms8, ms9, ms10, ms11, ms12, ms13, ms14, ms15, ms16, ms17, ms18, ms19, ms20, ms21, ms22, mf0, mf1, mf2, mf3, mf4, mf5, mf6, mf7, mf8, mf9, mf10, mf11, mf12, mf13, mf14, mf15, mf16, mf17, mf18, mf19, mf20, mf21, mf22, mf23, mf24, mf25, mf26, mp4, mp7, mp22, mp25, mp26, mq_0, al_I, as_I, zl_Z, zs_0, zs_1, Nat.reduceAdd, Nat.reduceLeDiff, Nat.zero_le, cat_0, cat_i, cat_r, opt_n, opt_s, true_and, nI_add, pk_mul, ua_ua, ua_s, ua_n, not_false_eq_true, Nat.reduceEqDiff, xi_n (show p < 10 by omega) (show 10 < 2147483648 by decide)]
      rw [ua_c (show ¬ 11 = 9 by decide), ua_ua]
      exact this
    by_cases hp : p < v
    · rw [if_pos hp] at he
      rw [if_neg (fun z => absurd ((nI_l1 (by omega) (by omega)).mp z) (by omega)), r_to (by omega), ua_n (by decide), hR' a ha p (by omega)]
      cases hef : efa v a b 10 (tR v a p) ms with
      | none => rw [hef] at he; cases he
      | some x =>
        obtain ⟨e, ms'⟩ := x
        rw [hef] at he
        simp only [s103_0, s103_1, s103_2, s103_3, s103_4, s103_7, s103_8, s103_9, s103_12, s103_13, s103_16, s103_17, s103_18, s103_19, s103_22, s103_25, s103_26, s103_28, s103_29, s103_32, s103_35, s103_36, s103_39, s103_40, s103_41, s103_42, s103_45, s103_46, s103_47, s103_50, s103_51, s103_52, s103_53, s103_54, s103_57, s103_60, s103_61, s103_62, s103_63, s103_64, s103_68, s103_71, s103_75, s103_76, s103_77, s103_79, s103_81, s103_82, s103_85, s103_86, s103_87, s103_90, s103_91, s103_94, s103_96, s103_97, s103_100, s103_101, s103_102, s103_103, s103_105, s103_108, s103_111, s103_114, s103_117, s103_118, s103_121, s103_123, s103_124, s103_125, s103_126, s103_127, s103_128, s103_131, s103_132, s103_133, s103_136, s103_138, s103_139, s103_140, s103_141, s103_142, s103_143, s103_144, mis, mg1, mg2, mg3, mg4, mg5, mg6, mg7, mg8, mg9, mg10, mg11, mg12, mg13, mg14, mg15, mg16, mg17, mg18, mg19, mg20, mg21, mg22, ms1, ms2, ms3, ms4, ms5, ms6, ms7, ms8, ms9, ms10, ms11, ms12, ms13, ms14, ms15, ms16, ms17, ms18, ms19, ms20, ms21, ms22, mf0, mf1, mf2, mf3, mf4, mf5, mf6, mf7, mf8, mf9, mf10, mf11, mf12, mf13, mf14, mf15, mf16, mf17, mf18, mf19, mf20, mf21, mf22, mf23, mf24, mf25, mf26, mp4, mp7, mp22, mp25, mp26, mq_0, al_I, as_I, zl_Z, zs_0, zs_1, Nat.reduceAdd, Nat.reduceLeDiff, Nat.zero_le, cat_0, cat_i, cat_r, opt_n, opt_s, true_and, nI_add, pk_mul, ua_ua, ua_s, ua_n, not_false_eq_true, Nat.reduceEqDiff, s100_6]
        refine l_efa (A := ua A 9 (wr ws W0)) h1 h2 ha hb hv' hR' 10 (tR v a p) ms _ _ e ms' (tR_lt h1 h2 ha (by omega)) hef ?_
        simp only [s103_0, s103_1, s103_2, s103_3, s103_4, s103_7, s103_8, s103_9, s103_12, s103_13, s103_16, s103_17, s103_18, s103_19, s103_22, s103_25, s103_26, s103_28, s103_29, s103_32, s103_35, s103_36, s103_39, s103_40, s103_41, s103_42, s103_45, s103_46, s103_47, s103_50, s103_51, s103_52, s103_53, s103_54, s103_57, s103_60, s103_61, s103_62, s103_63, s103_64, s103_68, s103_71, s103_75, s103_76, s103_77, s103_79, s103_81, s103_82, s103_85, s103_86, s103_87, s103_90, s103_91, s103_94, s103_96, s103_97, s103_100, s103_101, s103_102, s103_103, s103_105, s103_108, s103_111, s103_114, s103_117, s103_118, s103_121, s103_123, s103_124, s103_125, s103_126, s103_127, s103_128, s103_131, s103_132, s103_133, s103_136, s103_138, s103_139, s103_140, s103_141, s103_142, s103_143, s103_144, mis, mg1, mg2, mg3, mg4, mg5, mg6, mg7, mg8, mg9, mg10, mg11, mg12, mg13, mg14, mg15, mg16, mg17, mg18, mg19, mg20, mg21, mg22, ms1, ms2, ms3, ms4, ms5, ms6, ms7, ms8, ms9, ms10, ms11, ms12, ms13, ms14, ms15, ms16, ms17, ms18, ms19, ms20, ms21, ms22, mf0, mf1, mf2, mf3, mf4, mf5, mf6, mf7, mf8, mf9, mf10, mf11, mf12, mf13, mf14, mf15, mf16, mf17, mf18, mf19, mf20, mf21, mf22, mf23, mf24, mf25, mf26, mp4, mp7, mp22, mp25, mp26, mq_0, al_I, as_I, zl_Z, zs_0, zs_1, Nat.reduceAdd, Nat.reduceLeDiff, Nat.zero_le, cat_0, cat_i, cat_r, opt_n, opt_s, true_and, nI_add, pk_mul, ua_ua, ua_s, ua_n, not_false_eq_true, Nat.reduceEqDiff]
        exact key e ms' he
    · rw [if_neg hp] at he
      rw [if_pos ((nI_l1 (by omega) (by omega)).mpr (by omega)), r_to (by omega), ua_n (by decide), hR' b hb p (by omega)]
      cases hef : efb v a b 10 (tR v b p) ms with
      | none => rw [hef] at he; cases he
      | some x =>
        obtain ⟨e, ms'⟩ := x
        rw [hef] at he
        simp only [s103_0, s103_1, s103_2, s103_3, s103_4, s103_7, s103_8, s103_9, s103_12, s103_13, s103_16, s103_17, s103_18, s103_19, s103_22, s103_25, s103_26, s103_28, s103_29, s103_32, s103_35, s103_36, s103_39, s103_40, s103_41, s103_42, s103_45, s103_46, s103_47, s103_50, s103_51, s103_52, s103_53, s103_54, s103_57, s103_60, s103_61, s103_62, s103_63, s103_64, s103_68, s103_71, s103_75, s103_76, s103_77, s103_79, s103_81, s103_82, s103_85, s103_86, s103_87, s103_90, s103_91, s103_94, s103_96, s103_97, s103_100, s103_101, s103_102, s103_103, s103_105, s103_108, s103_111, s103_114, s103_117, s103_118, s103_121, s103_123, s103_124, s103_125, s103_126, s103_127, s103_128, s103_131, s103_132, s103_133, s103_136, s103_138, s103_139, s103_140, s103_141, s103_142, s103_143, s103_144, mis, mg1, mg2, mg3, mg4, mg5, mg6, mg7, mg8, mg9, mg10, mg11, mg12, mg13, mg14, mg15, mg16, mg17, mg18, mg19, mg20, mg21, mg22, ms1, ms2, ms3, ms4, ms5, ms6, ms7, ms8, ms9, ms10, ms11, ms12, ms13, ms14, ms15, ms16, ms17, ms18, ms19, ms20, ms21, ms22, mf0, mf1, mf2, mf3, mf4, mf5, mf6, mf7, mf8, mf9, mf10, mf11, mf12, mf13, mf14, mf15, mf16, mf17, mf18, mf19, mf20, mf21, mf22, mf23, mf24, mf25, mf26, mp4, mp7, mp22, mp25, mp26, mq_0, al_I, as_I, zl_Z, zs_0, zs_1, Nat.reduceAdd, Nat.reduceLeDiff, Nat.zero_le, cat_0, cat_i, cat_r, opt_n, opt_s, true_and, nI_add, pk_mul, ua_ua, ua_s, ua_n, not_false_eq_true, Nat.reduceEqDiff, s101_6]
        refine l_efb (A := ua A 9 (wr ws W0)) h1 h2 ha hb hv' hR' 10 (tR v b p) ms _ e ms' (tR_lt h1 h2 hb (by omega)) hef ?_
        simp only [s103_0, s103_1, s103_2, s103_3, s103_4, s103_7, s103_8, s103_9, s103_12, s103_13, s103_16, s103_17, s103_18, s103_19, s103_22, s103_25, s103_26, s103_28, s103_29, s103_32, s103_35, s103_36, s103_39, s103_40, s103_41, s103_42, s103_45, s103_46, s103_47, s103_50, s103_51, s103_52, s103_53, s103_54, s103_57, s103_60, s103_61, s103_62, s103_63, s103_64, s103_68, s103_71, s103_75, s103_76, s103_77, s103_79, s103_81, s103_82, s103_85, s103_86, s103_87, s103_90, s103_91, s103_94, s103_96, s103_97, s103_100, s103_101, s103_102, s103_103, s103_105, s103_108, s103_111, s103_114, s103_117, s103_118, s103_121, s103_123, s103_124, s103_125, s103_126, s103_127, s103_128, s103_131, s103_132, s103_133, s103_136, s103_138, s103_139, s103_140, s103_141, s103_142, s103_143, s103_144, mis, mg1, mg2, mg3, mg4, mg5, mg6, mg7, mg8, mg9, mg10, mg11, mg12, mg13, mg14, mg15, mg16, mg17, mg18, mg19, mg20, mg21, mg22, ms1, ms2, ms3, ms4, ms5, ms6, ms7, ms8, ms9, ms10, ms11, ms12, ms13, ms14, ms15, ms16, ms17, ms18, ms19, ms20, ms21, ms22, mf0, mf1, mf2, mf3, mf4, mf5, mf6, mf7, mf8, mf9, mf10, mf11, mf12, mf13, mf14, mf15, mf16, mf17, mf18, mf19, mf20, mf21, mf22, mf23, mf24, mf25, mf26, mp4, mp7, mp22, mp25, mp26, mq_0, al_I, as_I, zl_Z, zs_0, zs_1, Nat.reduceAdd, Nat.reduceLeDiff, Nat.zero_le, cat_0, cat_i, cat_r, opt_n, opt_s, true_and, nI_add, pk_mul, ua_ua, ua_s, ua_n, not_false_eq_true, Nat.reduceEqDiff]
        exact key e ms' he
end M2
