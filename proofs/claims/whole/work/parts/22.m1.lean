/-! THE REFERENCE's smaller methods -/
theorem sh_ok : ∀ m, m < 32 → ((nI m &&& 31).toBitVec.smod 32).toNat = m := by decide +kernel
theorem sh_n {a m : Nat} (ha : a < 2147483648) (hm : m < 32) : nI a >>> (nI m &&& 31) = nI (a / 2 ^ m) := pk_shrN (by simpa using ha) _ m (sh_ok m hm)
theorem and_1 {a : Nat} (ha : a < 2147483648) : nI a &&& nI 1 = nI (a % 2) := pk_andN (by omega) 1 rfl
theorem shl_n {a m : Nat} (hm : m < 32) (ha : a * 2 ^ m < 2147483648) : nI a <<< (nI m &&& 31) = nI (a * 2 ^ m) := pk_shlN _ m (sh_ok m hm) (by omega)
theorem nI_e {a b : Nat} (ha : a < 2147483648) (hb : b < 2147483648) : nI a = nI b ↔ a = b := nI_eq (by simpa using ha) (by simpa using hb)
theorem nI_l1 {a b : Nat} (ha : a < 2147483648) (hb : b < 2147483648) : nI a ≤ nI b ↔ a ≤ b := nI_leI (by simpa using ha) (by simpa using hb)
theorem nI_l2 {a b : Nat} (ha : a < 2147483648) (hb : b < 2147483648) : nI a < nI b ↔ a < b := nI_ltI (by simpa using ha) (by simpa using hb)
section M1
variable {M : Nat} {A : Nat → Nat → Int32} {g h : ex_Hp} {X : Option Value → ex_Hp → Prop}
def inF (x a b : Int32) : Prop := a ≤ x ∧ x ≤ b
theorem r_in {x a b : Int32} : ex_W 92 0 [.int x, .int a, .int b] [] h X ↔ X (some (.int (if a ≤ x ∧ x ≤ b then nI 1 else nI 0))) h := by
  simp only [s92_0, s92_1, s92_2, s92_5, s92_6, s92_7, s92_10, s92_11, s92_14, s92_15, or_true, true_or, true_and]
  by_cases h1 : x < a
  · rw [if_pos h1, if_neg (fun z => absurd z.1 (Int32.not_le.mpr h1))]
  · rw [if_neg h1]
    by_cases h2 : b < x
    · rw [if_pos h2, if_neg (fun z => absurd z.2 (Int32.not_le.mpr h2))]
    · rw [if_neg h2, if_pos ⟨Int32.not_lt.mp h1, Int32.not_lt.mp h2⟩]
theorem m_within {x a b : Int32} : ex_W 85 0 [.int x, .int a, .int b] [] h X ↔ X (some (.int (if a ≤ x ∧ x ≤ b then nI 1 else nI 0))) h := by
  simp only [s85_0, s85_1, s85_2, s85_5, s85_6, s85_7, s85_10, s85_11, s85_14, s85_15, or_true, true_or, true_and]
  by_cases h1 : x < a
  · rw [if_pos h1, if_neg (fun z => absurd z.1 (Int32.not_le.mpr h1))]
  · rw [if_neg h1]
    by_cases h2 : b < x
    · rw [if_pos h2, if_neg (fun z => absurd z.2 (Int32.not_le.mpr h2))]
    · rw [if_neg h2, if_pos ⟨Int32.not_lt.mp h1, Int32.not_lt.mp h2⟩]
theorem r_points : ex_W 93 0 [.ref M] [] (mdl M A g) X ↔ X (some (.int (nI 2 * A 1 0))) (mdl M A g) := by
  simp only [s93_0, s93_1, s93_2, s93_5, s93_6, s93_7, s93_8, mis, mg1, mg2, mg3, mg4, mg5, mg6, mg7, mg8, mg9, mg10, mg11, mg12, mg13, mg14, mg15, mg16, mg17, mg18, mg19, mg20, mg21, mg22, ms1, ms2, ms3, ms4, ms5, ms6, ms7, ms8, ms9, ms10, ms11, ms12, ms13, ms14, ms15, ms16, ms17, ms18, ms19, ms20, ms21, ms22, mf0, mf1, mf2, mf3, mf4, mf5, mf6, mf7, mf8, mf9, mf10, mf11, mf12, mf13, mf14, mf15, mf16, mf17, mf18, mf19, mf20, mf21, mf22, mf23, mf24, mf25, mf26, mp4, mp7, mp22, mp25, mp26, mq_0, al_I, as_I, zl_Z, zs_0, zs_1, Nat.reduceAdd, Nat.reduceLeDiff, Nat.zero_le, cat_0, cat_i, cat_r, opt_n, opt_s, true_and, nI_add, pk_mul, ua_ua, ua_s, ua_n, not_false_eq_true, Nat.reduceEqDiff, xi_n (show 0 < 213 by decide) (by decide)]
theorem r_across {x : Int32} : ex_W 98 0 [.ref M, .int x] [] (mdl M A g) X ↔ X (some (.int (nI 2 * A 1 0 - nI 1 - x))) (mdl M A g) := by
  simp only [s98_0, s98_1, s98_4, s98_5, s98_6, s98_7, s98_8, mis, mg1, mg2, mg3, mg4, mg5, mg6, mg7, mg8, mg9, mg10, mg11, mg12, mg13, mg14, mg15, mg16, mg17, mg18, mg19, mg20, mg21, mg22, ms1, ms2, ms3, ms4, ms5, ms6, ms7, ms8, ms9, ms10, ms11, ms12, ms13, ms14, ms15, ms16, ms17, ms18, ms19, ms20, ms21, ms22, mf0, mf1, mf2, mf3, mf4, mf5, mf6, mf7, mf8, mf9, mf10, mf11, mf12, mf13, mf14, mf15, mf16, mf17, mf18, mf19, mf20, mf21, mf22, mf23, mf24, mf25, mf26, mp4, mp7, mp22, mp25, mp26, mq_0, al_I, as_I, zl_Z, zs_0, zs_1, Nat.reduceAdd, Nat.reduceLeDiff, Nat.zero_le, cat_0, cat_i, cat_r, opt_n, opt_s, true_and, nI_add, pk_mul, ua_ua, ua_s, ua_n, not_false_eq_true, Nat.reduceEqDiff, r_points]
theorem r_to {d p : Nat} (hd : 10 * d + p < 420) : ex_W 97 0 [.ref M, .int (nI d), .int (nI p)] [] (mdl M A g) X ↔ X (some (.int (A 5 (10 * d + p)))) (mdl M A g) := by
  simp only [s97_0, s97_1, s97_4, s97_6, s97_7, s97_8, s97_9, s97_10, s97_11, mis, mg1, mg2, mg3, mg4, mg5, mg6, mg7, mg8, mg9, mg10, mg11, mg12, mg13, mg14, mg15, mg16, mg17, mg18, mg19, mg20, mg21, mg22, ms1, ms2, ms3, ms4, ms5, ms6, ms7, ms8, ms9, ms10, ms11, ms12, ms13, ms14, ms15, ms16, ms17, ms18, ms19, ms20, ms21, ms22, mf0, mf1, mf2, mf3, mf4, mf5, mf6, mf7, mf8, mf9, mf10, mf11, mf12, mf13, mf14, mf15, mf16, mf17, mf18, mf19, mf20, mf21, mf22, mf23, mf24, mf25, mf26, mp4, mp7, mp22, mp25, mp26, mq_0, al_I, as_I, zl_Z, zs_0, zs_1, Nat.reduceAdd, Nat.reduceLeDiff, Nat.zero_le, cat_0, cat_i, cat_r, opt_n, opt_s, true_and, nI_add, pk_mul, ua_ua, ua_s, ua_n, not_false_eq_true, Nat.reduceEqDiff, xi_n hd (by decide)]
/-- numbers written one behind the other; the last one written stands -/
def wr (ws : List (Nat × Nat)) (f : Nat → Int32) : Nat → Int32 := fun j => match ws.lookup j with
  | some q => nI q
  | none => f j
theorem wr_cons {k q : Nat} {ws : List (Nat × Nat)} {f : Nat → Int32} : wr ((k, q) :: ws) f = upd (wr ws f) k (nI q) := by
  funext j
  by_cases h : j = k
  · subst h
    simp [wr, upd]
  · have hb : (j == k) = false := by simp [h]
    simp [wr, upd, h, List.lookup, hb]
/-- a text read from its first sign on: the places that are joined, or nothing -/
def ltx (N text : Nat) : Nat → Nat → List Nat → List (Nat × Nat) → Option (List (Nat × Nat))
  | 0, _, stk, ws => if stk = [] then some ws else none
  | n + 1, p, stk, ws => if text / 2 ^ (N - 1 - p) % 2 = 0 then ltx N text n (p + 1) (p :: stk) ws else match stk with
    | [] => none
    | q :: s => ltx N text n (p + 1) s ((q, p) :: (p, q) :: ws)
theorem l_layText {v text : Nat} {f0 : Nat → Int32} {A0 : Nat → Nat → Int32} (h1 : 1 ≤ v) (h2 : v ≤ 5) (ht : text < 1024) (hv : A0 1 0 = nI v) : ∀ (n p : Nat) (stk : List Nat) (ws : List (Nat × Nat)) (A : Nat → Nat → Int32), n + p = 2 * v → stk.length ≤ p → (∀ q ∈ stk, q < p) → (∀ j, j < stk.length → A 10 j = nI (stk.reverse.getD j 0)) → A 9 = wr ws f0 → (∀ k, ¬ k = 9 → ¬ k = 10 → A k = A0 k) →
    (∀ B : Nat → Nat → Int32, (∀ k, ¬ k = 9 → ¬ k = 10 → B k = A0 k) → (∀ ws', ltx (2 * v) text n p stk ws = some ws' → B 9 = wr ws' f0 → X (some (.int (nI 1))) (mdl M B g)) ∧ (ltx (2 * v) text n p stk ws = none → X (some (.int (nI 0))) (mdl M B g))) →
    ex_W 94 7 [.ref M, .int (nI text), .int (nI stk.length), .int (nI 1), .int (nI p)] [] (mdl M A g) X := by
  intro n
  induction n with
  | zero =>
    intro p stk ws A hnp hlen hlt hs h9 hA hX
    have hv' : A 1 0 = nI v := by rw [hA 1 (by decide) (by decide)]; exact hv
    obtain rfl : p = 2 * v := by omega
    rw [s94_7]
    simp only [s94_0, s94_1, s94_2, s94_3, s94_4, s94_5, s94_9, s94_10, s94_13, s94_16, s94_17, s94_20, s94_21, s94_22, s94_25, s94_26, s94_27, s94_29, s94_30, s94_31, s94_32, s94_33, s94_36, s94_37, s94_40, s94_41, s94_43, s94_44, s94_47, s94_50, s94_51, s94_54, s94_55, s94_56, s94_59, s94_62, s94_63, s94_66, s94_68, s94_69, s94_72, s94_73, s94_74, s94_75, s94_76, s94_79, s94_80, s94_83, s94_84, s94_85, s94_87, s94_88, s94_91, s94_94, s94_95, s94_98, s94_99, s94_102, s94_103, s94_106, s94_107, mis, mg1, mg2, mg3, mg4, mg5, mg6, mg7, mg8, mg9, mg10, mg11, mg12, mg13, mg14, mg15, mg16, mg17, mg18, mg19, mg20, mg21, mg22, ms1, ms2, ms3, ms4, ms5, ms6, ms7, ms8, ms9, ms10, ms11, ms12, ms13, ms14, ms15, ms16, ms17, ms18, ms19, ms20, ms21, ms22, mf0, mf1, mf2, mf3, mf4, mf5, mf6, mf7, mf8, mf9, mf10, mf11, mf12, mf13, mf14, mf15, mf16, mf17, mf18, mf19, mf20, mf21, mf22, mf23, mf24, mf25, mf26, mp4, mp7, mp22, mp25, mp26, mq_0, al_I, as_I, zl_Z, zs_0, zs_1, Nat.reduceAdd, Nat.reduceLeDiff, Nat.zero_le, cat_0, cat_i, cat_r, opt_n, opt_s, true_and, nI_add, pk_mul, ua_ua, ua_s, ua_n, not_false_eq_true, Nat.reduceEqDiff, r_points, hv']
    rw [if_pos (by rw [nI_l1 (by omega) (by omega)]; omega), if_neg (by decide)]
    cases stk with
    | nil =>
      rw [if_neg (by simp)]
      exact ⟨Or.inr trivial, (hX A hA).1 ws (by simp [ltx]) h9⟩
    | cons q s =>
      rw [if_pos (by rw [nI_e (by simp only [List.length_cons] at hlen ⊢; omega) (by omega)]; simp)]
      exact ⟨Or.inl trivial, (hX A hA).2 (by simp [ltx])⟩
  | succ n ih =>
    intro p stk ws A hnp hlen hlt hs h9 hA hX
    have hv' : A 1 0 = nI v := by rw [hA 1 (by decide) (by decide)]; exact hv
    have e1 : nI (2 * v) - nI 1 - nI p = nI (2 * v - 1 - p) := by rw [pk_sub (by omega), pk_sub (by omega)]
    have e2 : nI text >>> (nI (2 * v - 1 - p) &&& 31) &&& nI 1 = nI (text / 2 ^ (2 * v - 1 - p) % 2) := by
      rw [sh_n (by omega) (by omega), and_1 (by have := Nat.div_le_self text (2 ^ (2 * v - 1 - p)); omega)]
    have hlen10 : stk.length < 10 := by omega
    have n1 : ¬ nI (2 * v) ≤ nI p := by rw [nI_l1 (by omega) (by omega)]; omega
    have n2 : ¬ nI 1 = nI 0 := by decide
    simp only [ltx] at hX
    rw [s94_7]
    simp only [s94_0, s94_1, s94_2, s94_3, s94_4, s94_5, s94_9, s94_10, s94_13, s94_16, s94_17, s94_20, s94_21, s94_22, s94_25, s94_26, s94_27, s94_29, s94_30, s94_31, s94_32, s94_33, s94_36, s94_37, s94_40, s94_41, s94_43, s94_44, s94_47, s94_50, s94_51, s94_54, s94_55, s94_56, s94_59, s94_62, s94_63, s94_66, s94_68, s94_69, s94_72, s94_73, s94_74, s94_75, s94_76, s94_79, s94_80, s94_83, s94_84, s94_85, s94_87, s94_88, s94_91, s94_94, s94_95, s94_98, s94_99, s94_102, s94_103, s94_106, s94_107, mis, mg1, mg2, mg3, mg4, mg5, mg6, mg7, mg8, mg9, mg10, mg11, mg12, mg13, mg14, mg15, mg16, mg17, mg18, mg19, mg20, mg21, mg22, ms1, ms2, ms3, ms4, ms5, ms6, ms7, ms8, ms9, ms10, ms11, ms12, ms13, ms14, ms15, ms16, ms17, ms18, ms19, ms20, ms21, ms22, mf0, mf1, mf2, mf3, mf4, mf5, mf6, mf7, mf8, mf9, mf10, mf11, mf12, mf13, mf14, mf15, mf16, mf17, mf18, mf19, mf20, mf21, mf22, mf23, mf24, mf25, mf26, mp4, mp7, mp22, mp25, mp26, mq_0, al_I, as_I, zl_Z, zs_0, zs_1, Nat.reduceAdd, Nat.reduceLeDiff, Nat.zero_le, cat_0, cat_i, cat_r, opt_n, opt_s, true_and, nI_add, pk_mul, ua_ua, ua_s, ua_n, not_false_eq_true, Nat.reduceEqDiff, r_points, hv', e1, e2, if_neg n1, if_neg n2, xi_n hlen10 (show 10 < 2147483648 by decide)]
    by_cases hb : text / 2 ^ (2 * v - 1 - p) % 2 = 0
    · rw [if_neg (by rw [hb]; exact fun z => z rfl)]
      refine ih (p + 1) (p :: stk) ws _ (by omega) (by simp only [List.length_cons]; omega) (fun q hq => ?_) (fun j hj => ?_) ?_ (fun k k9 k10 => ?_) ?_
      · rcases List.mem_cons.mp hq with rfl | hq
        · omega
        · have := hlt q hq; omega
      · rw [ua_s, List.reverse_cons]
        by_cases hj2 : j = stk.length
        · subst hj2
          rw [pk_us, List.getD_eq_getElem?_getD, List.getElem?_append_right (by simp)]
          simp
        · simp only [List.length_cons] at hj
          rw [pk_un hj2, hs j (by omega), List.getD_eq_getElem?_getD, List.getD_eq_getElem?_getD, List.getElem?_append_left (by simp; omega)]
      · rw [ua_n (by decide)]; exact h9
      · rw [ua_n k10]; exact hA k k9 k10
      · simp only [if_pos hb] at hX
        exact hX
    · rw [if_pos (fun z => hb ((nI_e (by omega) (by omega)).mp z))]
      simp only [if_neg hb] at hX
      cases stk with
      | nil =>
        rw [if_neg (fun z => z rfl), s94_7]
        simp only [s94_0, s94_1, s94_2, s94_3, s94_4, s94_5, s94_9, s94_10, s94_13, s94_16, s94_17, s94_20, s94_21, s94_22, s94_25, s94_26, s94_27, s94_29, s94_30, s94_31, s94_32, s94_33, s94_36, s94_37, s94_40, s94_41, s94_43, s94_44, s94_47, s94_50, s94_51, s94_54, s94_55, s94_56, s94_59, s94_62, s94_63, s94_66, s94_68, s94_69, s94_72, s94_73, s94_74, s94_75, s94_76, s94_79, s94_80, s94_83, s94_84, s94_85, s94_87, s94_88, s94_91, s94_94, s94_95, s94_98, s94_99, s94_102, s94_103, s94_106, s94_107, mis, mg1, mg2, mg3, mg4, mg5, mg6, mg7, mg8, mg9, mg10, mg11, mg12, mg13, mg14, mg15, mg16, mg17, mg18, mg19, mg20, mg21, mg22, ms1, ms2, ms3, ms4, ms5, ms6, ms7, ms8, ms9, ms10, ms11, ms12, ms13, ms14, ms15, ms16, ms17, ms18, ms19, ms20, ms21, ms22, mf0, mf1, mf2, mf3, mf4, mf5, mf6, mf7, mf8, mf9, mf10, mf11, mf12, mf13, mf14, mf15, mf16, mf17, mf18, mf19, mf20, mf21, mf22, mf23, mf24, mf25, mf26, mp4, mp7, mp22, mp25, mp26, mq_0, al_I, as_I, zl_Z, zs_0, zs_1, Nat.reduceAdd, Nat.reduceLeDiff, Nat.zero_le, cat_0, cat_i, cat_r, opt_n, opt_s, true_and, nI_add, pk_mul, ua_ua, ua_s, ua_n, not_false_eq_true, Nat.reduceEqDiff, r_points, hv', if_true]
        have := (hX A hA).2 rfl
        split
        · exact ⟨Or.inl trivial, this⟩
        · exact ⟨Or.inl trivial, this⟩
      | cons q s =>
        simp only [List.length_cons] at hlen hlen10 hs ⊢
        rw [if_pos (by rw [nI_e (by omega) (by omega)]; omega)]
        have hq : A 10 s.length = nI q := by
          rw [hs s.length (by omega), List.reverse_cons, List.getD_eq_getElem?_getD, List.getElem?_append_right (by simp)]
          simp
        have hqp := hlt q List.mem_cons_self
        simp only [pk_sub (show 1 ≤ s.length + 1 by omega), Nat.add_sub_cancel, mis, mg1, mg2, mg3, mg4, mg5, mg6, mg7, mg8, mg9, mg10, mg11, mg12, mg13, mg14, mg15, mg16, mg17, mg18, mg19, mg20, mg21, mg22, ms1, ms2, ms3, ms4, ms5, ms6, ms7, ms8, ms9, ms10, ms11, ms12, ms13, ms14, ms15, ms16, ms17, ms18, ms19, ms20, ms21, ms22, mf0, mf1, mf2, mf3, mf4, mf5, mf6, mf7, mf8, mf9, mf10, mf11, mf12, mf13, mf14, mf15, mf16, mf17, mf18, mf19, mf20, mf21, mf22, mf23, mf24, mf25, mf26, mp4, mp7, mp22, mp25, mp26, mq_0, al_I, as_I, zl_Z, zs_0, zs_1, Nat.reduceAdd, Nat.reduceLeDiff, Nat.zero_le, cat_0, cat_i, cat_r, opt_n, opt_s, true_and, nI_add, pk_mul, ua_ua, ua_s, ua_n, not_false_eq_true, Nat.reduceEqDiff, xi_n (show s.length < 10 by omega) (show 10 < 2147483648 by decide), xi_n (show p < 10 by omega) (show 10 < 2147483648 by decide), ua_n (show ¬ 10 = 9 by decide), hq, xi_n (show q < 10 by omega) (show 10 < 2147483648 by decide)]
        refine ih (p + 1) s ((q, p) :: (p, q) :: ws) _ (by omega) (by omega) (fun r hr => ?_) (fun j hj => ?_) ?_ (fun k k9 k10 => ?_) hX
        · have := hlt r (List.mem_cons_of_mem _ hr); omega
        · rw [ua_n (by decide), hs j (by omega), List.reverse_cons, List.getD_eq_getElem?_getD, List.getD_eq_getElem?_getD, List.getElem?_append_left (by simp; omega)]
        · rw [ua_s, wr_cons, wr_cons, h9]
        · rw [ua_n k9]; exact hA k k9 k10
end M1
