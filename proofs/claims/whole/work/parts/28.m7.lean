/-! THE REFERENCE: its answers as functions of what it holds; of, joined, stack, way, prime, put, at, image, restore, count -/
theorem n10 : ¬ nI 1 = nI 0 := by decide
theorem i10 {p q : Prop} {_ : Decidable (nI 1 = nI 0)} : (if nI 1 = nI 0 then p else q) = q := if_neg n10
theorem i10n {p q : Prop} {_ : Decidable (¬ nI 1 = nI 0)} : (if ¬ nI 1 = nI 0 then p else q) = p := if_pos n10
def ix (x : Int32) : Nat := x.toNatClampNeg
theorem ix_n {k : Nat} (h : k < 2147483648) : ix (nI k) = k := nI_clamp (by simpa using h)
abbrev isW (a b : Nat) (x : Int32) : Prop := nI a ≤ x ∧ x ≤ nI b
theorem isW_e {a b : Nat} {x : Int32} (ha : a < 2147483648) (hb : b < 2147483648) (h : isW a b x) : a ≤ ix x ∧ ix x ≤ b ∧ nI (ix x) = x := by
  obtain ⟨k, k1, k2, rfl⟩ := pk_ixe hb h ha
  rw [ix_n (by omega)]
  exact ⟨k1, k2, rfl⟩
theorem isW_n {a b k : Nat} (ha : a ≤ k) (hb : k ≤ b) (h : b < 2147483648) : isW a b (nI k) := ⟨((nI_l1 (by omega) (by omega)).mpr (by omega)), ((nI_l1 (by omega) (by omega)).mpr (by omega))⟩
def aOf (v : Nat) (x y : Int32) : Int32 := if isW 0 (tC v - 1) x then (if y = nI 0 then nI (tTh v (ix x)) else if y = nI 1 then nI (tCl v (ix x)) else if y = nI 2 then nI (tTu v (ix x)) else if y = nI 3 then nI (tStep v (ix x)) else -2) else -1
def aJo (v : Nat) (x y : Int32) : Int32 := if isW 0 (tC v - 1) x ∧ isW 0 (2 * v - 1) y then nI (tR v (ix x) (ix y)) else -1
def aSk (v : Nat) (x y z : Int32) : Int32 := if isW 0 (tC v - 1) x ∧ isW 0 (tC v - 1) y then (if z = nI 0 then nI (tP v (ix x) (ix y)) else if z = nI 1 then nI (tQ v (ix x) (ix y)) else -2) else -1
def aWy (v : Nat) (x y : Int32) : Int32 := if isW 0 (tC v - 1) x then (if nI 0 ≤ y ∧ y < nI (tStep v (ix x)) then nI (tWy v (ix x) (ix y)) else -6) else -1
section M7
variable {M : Nat} {A : Nat → Nat → Int32} {g h : ex_Hp} {X : Option Value → ex_Hp → Prop} {v a b d : Nat} {f0 : Nat → Int32}
theorem r_isD {x : Int32} (h1 : 1 ≤ v) (h2 : v ≤ 5) (hT : mTab v A) : ex_W 104 0 [.ref M, .int x] [] (mdl M A g) X ↔ X (some (.int (if isW 0 (tC v - 1) x then nI 1 else nI 0))) (mdl M A g) := r_isDiagram h1 h2 hT
theorem r_isS {x : Int32} : ex_W 105 0 [.int x] [] h X ↔ X (some (.int (if isW 0 4 x then nI 1 else nI 0))) h := r_isSlot
theorem r_inW {x : Int32} {a b : Nat} : ex_W 92 0 [.int x, .int (nI a), .int (nI b)] [] h X ↔ X (some (.int (if isW a b x then nI 1 else nI 0))) h := r_in
theorem r_of {x y : Int32} (h1 : 1 ≤ v) (h2 : v ≤ 5) (hv : A 1 0 = nI v) (hT : mTab v A) (hX : ∀ B, mKeep A B → X (some (.int (aOf v x y))) (mdl M B g)) : ex_W 122 0 [.ref M, .int x, .int y] [] (mdl M A g) X := by
  have hC := tC_le h1 h2
  by_cases hx : isW 0 (tC v - 1) x
  · obtain ⟨_, q2, q3⟩ := isW_e (by decide) (by omega) hx
    have hd : ix x < tC v := by omega
    simp only [s122_0, s122_1, s122_2, s122_5, s122_8, s122_9, s122_10, s122_11, s122_40, s122_41, s122_42, s122_45, s122_46, s122_47, s122_48, s122_51, s122_52, s122_53, s122_54, s122_57, s122_58, s122_59, s122_62, s122_63, s122_66, s122_67, s122_68, s122_69, s122_71, mis, mg1, mg2, mg3, mg4, mg5, mg6, mg7, mg8, mg9, mg10, mg11, mg12, mg13, mg14, mg15, mg16, mg17, mg18, mg19, mg20, mg21, mg22, ms1, ms2, ms3, ms4, ms5, ms6, ms7, ms8, ms9, ms10, ms11, ms12, ms13, ms14, ms15, ms16, ms17, ms18, ms19, ms20, ms21, ms22, mf0, mf1, mf2, mf3, mf4, mf5, mf6, mf7, mf8, mf9, mf10, mf11, mf12, mf13, mf14, mf15, mf16, mf17, mf18, mf19, mf20, mf21, mf22, mf23, mf24, mf25, mf26, mp4, mp7, mp22, mp25, mp26, mq_0, al_I, as_I, zl_Z, zs_0, zs_1, Nat.reduceAdd, Nat.reduceLeDiff, Nat.zero_le, cat_0, cat_i, cat_r, opt_n, opt_s, true_and, nI_add, pk_mul, ua_ua, ua_s, ua_n, not_false_eq_true, Nat.reduceEqDiff, r_isD h1 h2 hT, if_pos hx, i10, i10n, not_true_eq_false, if_false, if_true]
    unfold aOf at hX
    rw [if_pos hx] at hX
    by_cases y0 : y = nI 0
    · rw [if_pos y0] at hX ⊢
      rw [← q3]
      refine r_through h1 h2 hd hv hT ?_
      simp only [s122_0, s122_1, s122_2, s122_5, s122_8, s122_9, s122_10, s122_11, s122_40, s122_41, s122_42, s122_45, s122_46, s122_47, s122_48, s122_51, s122_52, s122_53, s122_54, s122_57, s122_58, s122_59, s122_62, s122_63, s122_66, s122_67, s122_68, s122_69, s122_71, mis, mg1, mg2, mg3, mg4, mg5, mg6, mg7, mg8, mg9, mg10, mg11, mg12, mg13, mg14, mg15, mg16, mg17, mg18, mg19, mg20, mg21, mg22, ms1, ms2, ms3, ms4, ms5, ms6, ms7, ms8, ms9, ms10, ms11, ms12, ms13, ms14, ms15, ms16, ms17, ms18, ms19, ms20, ms21, ms22, mf0, mf1, mf2, mf3, mf4, mf5, mf6, mf7, mf8, mf9, mf10, mf11, mf12, mf13, mf14, mf15, mf16, mf17, mf18, mf19, mf20, mf21, mf22, mf23, mf24, mf25, mf26, mp4, mp7, mp22, mp25, mp26, mq_0, al_I, as_I, zl_Z, zs_0, zs_1, Nat.reduceAdd, Nat.reduceLeDiff, Nat.zero_le, cat_0, cat_i, cat_r, opt_n, opt_s, true_and, nI_add, pk_mul, ua_ua, ua_s, ua_n, not_false_eq_true, Nat.reduceEqDiff]
      exact hX A mKeep.rfl'
    · rw [if_neg y0] at hX ⊢
      by_cases y1 : y = nI 1
      · rw [if_pos y1] at hX ⊢
        rw [← q3]
        refine r_closedLoops h1 h2 hd hv hT ?_
        simp only [s122_0, s122_1, s122_2, s122_5, s122_8, s122_9, s122_10, s122_11, s122_40, s122_41, s122_42, s122_45, s122_46, s122_47, s122_48, s122_51, s122_52, s122_53, s122_54, s122_57, s122_58, s122_59, s122_62, s122_63, s122_66, s122_67, s122_68, s122_69, s122_71, mis, mg1, mg2, mg3, mg4, mg5, mg6, mg7, mg8, mg9, mg10, mg11, mg12, mg13, mg14, mg15, mg16, mg17, mg18, mg19, mg20, mg21, mg22, ms1, ms2, ms3, ms4, ms5, ms6, ms7, ms8, ms9, ms10, ms11, ms12, ms13, ms14, ms15, ms16, ms17, ms18, ms19, ms20, ms21, ms22, mf0, mf1, mf2, mf3, mf4, mf5, mf6, mf7, mf8, mf9, mf10, mf11, mf12, mf13, mf14, mf15, mf16, mf17, mf18, mf19, mf20, mf21, mf22, mf23, mf24, mf25, mf26, mp4, mp7, mp22, mp25, mp26, mq_0, al_I, as_I, zl_Z, zs_0, zs_1, Nat.reduceAdd, Nat.reduceLeDiff, Nat.zero_le, cat_0, cat_i, cat_r, opt_n, opt_s, true_and, nI_add, pk_mul, ua_ua, ua_s, ua_n, not_false_eq_true, Nat.reduceEqDiff]
        exact hX A mKeep.rfl'
      · rw [if_neg y1] at hX ⊢
        by_cases y2 : y = nI 2
        · rw [if_pos y2] at hX ⊢
          rw [← q3]
          refine r_turnedOf h1 h2 hd hv hT (fun f => ?_)
          simp only [s122_0, s122_1, s122_2, s122_5, s122_8, s122_9, s122_10, s122_11, s122_40, s122_41, s122_42, s122_45, s122_46, s122_47, s122_48, s122_51, s122_52, s122_53, s122_54, s122_57, s122_58, s122_59, s122_62, s122_63, s122_66, s122_67, s122_68, s122_69, s122_71, mis, mg1, mg2, mg3, mg4, mg5, mg6, mg7, mg8, mg9, mg10, mg11, mg12, mg13, mg14, mg15, mg16, mg17, mg18, mg19, mg20, mg21, mg22, ms1, ms2, ms3, ms4, ms5, ms6, ms7, ms8, ms9, ms10, ms11, ms12, ms13, ms14, ms15, ms16, ms17, ms18, ms19, ms20, ms21, ms22, mf0, mf1, mf2, mf3, mf4, mf5, mf6, mf7, mf8, mf9, mf10, mf11, mf12, mf13, mf14, mf15, mf16, mf17, mf18, mf19, mf20, mf21, mf22, mf23, mf24, mf25, mf26, mp4, mp7, mp22, mp25, mp26, mq_0, al_I, as_I, zl_Z, zs_0, zs_1, Nat.reduceAdd, Nat.reduceLeDiff, Nat.zero_le, cat_0, cat_i, cat_r, opt_n, opt_s, true_and, nI_add, pk_mul, ua_ua, ua_s, ua_n, not_false_eq_true, Nat.reduceEqDiff]
          exact hX _ (mKeep.rfl'.uk (by decide))
        · rw [if_neg y2] at hX ⊢
          by_cases y3 : y = nI 3
          · rw [if_pos y3] at hX ⊢
            rw [← q3]
            refine r_layWays h1 h2 hv hT (fun B hB hw => ?_)
            have hw2 := hw.2.1 _ hd
            rw [if_pos (tLw1 h1 h2 hd).2.2.2.2.1] at hw2
            simp only [s122_0, s122_1, s122_2, s122_5, s122_8, s122_9, s122_10, s122_11, s122_40, s122_41, s122_42, s122_45, s122_46, s122_47, s122_48, s122_51, s122_52, s122_53, s122_54, s122_57, s122_58, s122_59, s122_62, s122_63, s122_66, s122_67, s122_68, s122_69, s122_71, mis, mg1, mg2, mg3, mg4, mg5, mg6, mg7, mg8, mg9, mg10, mg11, mg12, mg13, mg14, mg15, mg16, mg17, mg18, mg19, mg20, mg21, mg22, ms1, ms2, ms3, ms4, ms5, ms6, ms7, ms8, ms9, ms10, ms11, ms12, ms13, ms14, ms15, ms16, ms17, ms18, ms19, ms20, ms21, ms22, mf0, mf1, mf2, mf3, mf4, mf5, mf6, mf7, mf8, mf9, mf10, mf11, mf12, mf13, mf14, mf15, mf16, mf17, mf18, mf19, mf20, mf21, mf22, mf23, mf24, mf25, mf26, mp4, mp7, mp22, mp25, mp26, mq_0, al_I, as_I, zl_Z, zs_0, zs_1, Nat.reduceAdd, Nat.reduceLeDiff, Nat.zero_le, cat_0, cat_i, cat_r, opt_n, opt_s, true_and, nI_add, pk_mul, ua_ua, ua_s, ua_n, not_false_eq_true, Nat.reduceEqDiff, xi_n (show ix x < 42 by omega) (show 42 < 2147483648 by decide), hw2]
            exact hX B hB
          · rw [if_neg y3] at hX ⊢
            exact hX A mKeep.rfl'
  · simp only [s122_0, s122_1, s122_2, s122_5, s122_8, s122_9, s122_10, s122_11, s122_40, s122_41, s122_42, s122_45, s122_46, s122_47, s122_48, s122_51, s122_52, s122_53, s122_54, s122_57, s122_58, s122_59, s122_62, s122_63, s122_66, s122_67, s122_68, s122_69, s122_71, mis, mg1, mg2, mg3, mg4, mg5, mg6, mg7, mg8, mg9, mg10, mg11, mg12, mg13, mg14, mg15, mg16, mg17, mg18, mg19, mg20, mg21, mg22, ms1, ms2, ms3, ms4, ms5, ms6, ms7, ms8, ms9, ms10, ms11, ms12, ms13, ms14, ms15, ms16, ms17, ms18, ms19, ms20, ms21, ms22, mf0, mf1, mf2, mf3, mf4, mf5, mf6, mf7, mf8, mf9, mf10, mf11, mf12, mf13, mf14, mf15, mf16, mf17, mf18, mf19, mf20, mf21, mf22, mf23, mf24, mf25, mf26, mp4, mp7, mp22, mp25, mp26, mq_0, al_I, as_I, zl_Z, zs_0, zs_1, Nat.reduceAdd, Nat.reduceLeDiff, Nat.zero_le, cat_0, cat_i, cat_r, opt_n, opt_s, true_and, nI_add, pk_mul, ua_ua, ua_s, ua_n, not_false_eq_true, Nat.reduceEqDiff, r_isD h1 h2 hT, if_neg hx, i10, i10n, not_true_eq_false, if_false, if_true]
    unfold aOf at hX
    rw [if_neg hx] at hX
    exact hX A mKeep.rfl'
theorem r_joined {x y : Int32} (h1 : 1 ≤ v) (h2 : v ≤ 5) (hv : A 1 0 = nI v) (hT : mTab v A) (hX : X (some (.int (aJo v x y))) (mdl M A g)) : ex_W 123 0 [.ref M, .int x, .int y] [] (mdl M A g) X := by
  have hC := tC_le h1 h2
  unfold aJo at hX
  by_cases hx : isW 0 (tC v - 1) x
  · obtain ⟨_, q2, q3⟩ := isW_e (by decide) (by omega) hx
    by_cases hy : isW 0 (2 * v - 1) y
    · obtain ⟨_, p2, p3⟩ := isW_e (by decide) (by omega) hy
      rw [if_pos ⟨hx, hy⟩] at hX
      simp only [s123_0, s123_1, s123_2, s123_5, s123_8, s123_9, s123_10, s123_11, s123_14, s123_15, s123_16, s123_19, s123_22, s123_23, s123_24, s123_25, s123_28, s123_31, s123_32, mis, mg1, mg2, mg3, mg4, mg5, mg6, mg7, mg8, mg9, mg10, mg11, mg12, mg13, mg14, mg15, mg16, mg17, mg18, mg19, mg20, mg21, mg22, ms1, ms2, ms3, ms4, ms5, ms6, ms7, ms8, ms9, ms10, ms11, ms12, ms13, ms14, ms15, ms16, ms17, ms18, ms19, ms20, ms21, ms22, mf0, mf1, mf2, mf3, mf4, mf5, mf6, mf7, mf8, mf9, mf10, mf11, mf12, mf13, mf14, mf15, mf16, mf17, mf18, mf19, mf20, mf21, mf22, mf23, mf24, mf25, mf26, mp4, mp7, mp22, mp25, mp26, mq_0, al_I, as_I, zl_Z, zs_0, zs_1, Nat.reduceAdd, Nat.reduceLeDiff, Nat.zero_le, cat_0, cat_i, cat_r, opt_n, opt_s, true_and, nI_add, pk_mul, ua_ua, ua_s, ua_n, not_false_eq_true, Nat.reduceEqDiff, r_isD h1 h2 hT, if_pos hx, i10, i10n, not_true_eq_false, if_false, if_true, r_points, hv, pk_sub (show 1 ≤ 2 * v by omega), r_inW, if_pos hy]
      rw [← q3, ← p3, r_to (by omega), hT.2.1 _ (by omega) _ (by omega)]
      simp only [s123_0, s123_1, s123_2, s123_5, s123_8, s123_9, s123_10, s123_11, s123_14, s123_15, s123_16, s123_19, s123_22, s123_23, s123_24, s123_25, s123_28, s123_31, s123_32, mis, mg1, mg2, mg3, mg4, mg5, mg6, mg7, mg8, mg9, mg10, mg11, mg12, mg13, mg14, mg15, mg16, mg17, mg18, mg19, mg20, mg21, mg22, ms1, ms2, ms3, ms4, ms5, ms6, ms7, ms8, ms9, ms10, ms11, ms12, ms13, ms14, ms15, ms16, ms17, ms18, ms19, ms20, ms21, ms22, mf0, mf1, mf2, mf3, mf4, mf5, mf6, mf7, mf8, mf9, mf10, mf11, mf12, mf13, mf14, mf15, mf16, mf17, mf18, mf19, mf20, mf21, mf22, mf23, mf24, mf25, mf26, mp4, mp7, mp22, mp25, mp26, mq_0, al_I, as_I, zl_Z, zs_0, zs_1, Nat.reduceAdd, Nat.reduceLeDiff, Nat.zero_le, cat_0, cat_i, cat_r, opt_n, opt_s, true_and, nI_add, pk_mul, ua_ua, ua_s, ua_n, not_false_eq_true, Nat.reduceEqDiff]
      exact hX
    · rw [if_neg (fun z => hy z.2)] at hX
      simp only [s123_0, s123_1, s123_2, s123_5, s123_8, s123_9, s123_10, s123_11, s123_14, s123_15, s123_16, s123_19, s123_22, s123_23, s123_24, s123_25, s123_28, s123_31, s123_32, mis, mg1, mg2, mg3, mg4, mg5, mg6, mg7, mg8, mg9, mg10, mg11, mg12, mg13, mg14, mg15, mg16, mg17, mg18, mg19, mg20, mg21, mg22, ms1, ms2, ms3, ms4, ms5, ms6, ms7, ms8, ms9, ms10, ms11, ms12, ms13, ms14, ms15, ms16, ms17, ms18, ms19, ms20, ms21, ms22, mf0, mf1, mf2, mf3, mf4, mf5, mf6, mf7, mf8, mf9, mf10, mf11, mf12, mf13, mf14, mf15, mf16, mf17, mf18, mf19, mf20, mf21, mf22, mf23, mf24, mf25, mf26, mp4, mp7, mp22, mp25, mp26, mq_0, al_I, as_I, zl_Z, zs_0, zs_1, Nat.reduceAdd, Nat.reduceLeDiff, Nat.zero_le, cat_0, cat_i, cat_r, opt_n, opt_s, true_and, nI_add, pk_mul, ua_ua, ua_s, ua_n, not_false_eq_true, Nat.reduceEqDiff, r_isD h1 h2 hT, if_pos hx, i10, i10n, not_true_eq_false, if_false, if_true, r_points, hv, pk_sub (show 1 ≤ 2 * v by omega), r_inW, if_neg hy]
      exact hX
  · rw [if_neg (fun z => hx z.1)] at hX
    simp only [s123_0, s123_1, s123_2, s123_5, s123_8, s123_9, s123_10, s123_11, s123_14, s123_15, s123_16, s123_19, s123_22, s123_23, s123_24, s123_25, s123_28, s123_31, s123_32, mis, mg1, mg2, mg3, mg4, mg5, mg6, mg7, mg8, mg9, mg10, mg11, mg12, mg13, mg14, mg15, mg16, mg17, mg18, mg19, mg20, mg21, mg22, ms1, ms2, ms3, ms4, ms5, ms6, ms7, ms8, ms9, ms10, ms11, ms12, ms13, ms14, ms15, ms16, ms17, ms18, ms19, ms20, ms21, ms22, mf0, mf1, mf2, mf3, mf4, mf5, mf6, mf7, mf8, mf9, mf10, mf11, mf12, mf13, mf14, mf15, mf16, mf17, mf18, mf19, mf20, mf21, mf22, mf23, mf24, mf25, mf26, mp4, mp7, mp22, mp25, mp26, mq_0, al_I, as_I, zl_Z, zs_0, zs_1, Nat.reduceAdd, Nat.reduceLeDiff, Nat.zero_le, cat_0, cat_i, cat_r, opt_n, opt_s, true_and, nI_add, pk_mul, ua_ua, ua_s, ua_n, not_false_eq_true, Nat.reduceEqDiff, r_isD h1 h2 hT, if_neg hx, i10, i10n, not_true_eq_false, if_false, if_true]
    exact hX
theorem r_stack {x y z : Int32} (h1 : 1 ≤ v) (h2 : v ≤ 5) (hT : mTab v A) (hX : X (some (.int (aSk v x y z))) (mdl M A g)) : ex_W 124 0 [.ref M, .int x, .int y, .int z] [] (mdl M A g) X := by
  have hC := tC_le h1 h2
  unfold aSk at hX
  by_cases hx : isW 0 (tC v - 1) x
  · obtain ⟨_, q2, q3⟩ := isW_e (by decide) (by omega) hx
    by_cases hy : isW 0 (tC v - 1) y
    · obtain ⟨_, p2, p3⟩ := isW_e (by decide) (by omega) hy
      rw [if_pos ⟨hx, hy⟩] at hX
      simp only [s124_0, s124_1, s124_2, s124_5, s124_8, s124_9, s124_10, s124_13, s124_16, s124_17, s124_18, s124_19, s124_22, s124_23, s124_26, s124_28, s124_29, s124_30, s124_31, s124_32, s124_33, s124_36, s124_37, s124_38, s124_41, s124_42, s124_45, s124_47, s124_48, s124_49, s124_50, s124_51, s124_52, s124_55, s124_57, mis, mg1, mg2, mg3, mg4, mg5, mg6, mg7, mg8, mg9, mg10, mg11, mg12, mg13, mg14, mg15, mg16, mg17, mg18, mg19, mg20, mg21, mg22, ms1, ms2, ms3, ms4, ms5, ms6, ms7, ms8, ms9, ms10, ms11, ms12, ms13, ms14, ms15, ms16, ms17, ms18, ms19, ms20, ms21, ms22, mf0, mf1, mf2, mf3, mf4, mf5, mf6, mf7, mf8, mf9, mf10, mf11, mf12, mf13, mf14, mf15, mf16, mf17, mf18, mf19, mf20, mf21, mf22, mf23, mf24, mf25, mf26, mp4, mp7, mp22, mp25, mp26, mq_0, al_I, as_I, zl_Z, zs_0, zs_1, Nat.reduceAdd, Nat.reduceLeDiff, Nat.zero_le, cat_0, cat_i, cat_r, opt_n, opt_s, true_and, nI_add, pk_mul, ua_ua, ua_s, ua_n, not_false_eq_true, Nat.reduceEqDiff, r_isD h1 h2 hT, if_pos hx, if_pos hy, i10, i10n, not_true_eq_false, if_false, if_true]
      have ht := hT.2.2.2 (ix x) (by omega) (ix y) (by omega)
      by_cases z0 : z = nI 0
      · rw [if_pos z0] at hX
        rw [if_neg (fun q => q z0), ← q3, ← p3]
        simp only [mis, mg1, mg2, mg3, mg4, mg5, mg6, mg7, mg8, mg9, mg10, mg11, mg12, mg13, mg14, mg15, mg16, mg17, mg18, mg19, mg20, mg21, mg22, ms1, ms2, ms3, ms4, ms5, ms6, ms7, ms8, ms9, ms10, ms11, ms12, ms13, ms14, ms15, ms16, ms17, ms18, ms19, ms20, ms21, ms22, mf0, mf1, mf2, mf3, mf4, mf5, mf6, mf7, mf8, mf9, mf10, mf11, mf12, mf13, mf14, mf15, mf16, mf17, mf18, mf19, mf20, mf21, mf22, mf23, mf24, mf25, mf26, mp4, mp7, mp22, mp25, mp26, mq_0, al_I, as_I, zl_Z, zs_0, zs_1, Nat.reduceAdd, Nat.reduceLeDiff, Nat.zero_le, cat_0, cat_i, cat_r, opt_n, opt_s, true_and, nI_add, pk_mul, ua_ua, ua_s, ua_n, not_false_eq_true, Nat.reduceEqDiff, xi_n (show 42 * ix x + ix y < 1764 by omega) (show 1764 < 2147483648 by decide), ht.1]
        exact hX
      · rw [if_neg z0] at hX
        rw [if_pos z0]
        by_cases z1 : z = nI 1
        · rw [if_pos z1] at hX
          rw [if_neg (fun q => q z1), ← q3, ← p3]
          simp only [mis, mg1, mg2, mg3, mg4, mg5, mg6, mg7, mg8, mg9, mg10, mg11, mg12, mg13, mg14, mg15, mg16, mg17, mg18, mg19, mg20, mg21, mg22, ms1, ms2, ms3, ms4, ms5, ms6, ms7, ms8, ms9, ms10, ms11, ms12, ms13, ms14, ms15, ms16, ms17, ms18, ms19, ms20, ms21, ms22, mf0, mf1, mf2, mf3, mf4, mf5, mf6, mf7, mf8, mf9, mf10, mf11, mf12, mf13, mf14, mf15, mf16, mf17, mf18, mf19, mf20, mf21, mf22, mf23, mf24, mf25, mf26, mp4, mp7, mp22, mp25, mp26, mq_0, al_I, as_I, zl_Z, zs_0, zs_1, Nat.reduceAdd, Nat.reduceLeDiff, Nat.zero_le, cat_0, cat_i, cat_r, opt_n, opt_s, true_and, nI_add, pk_mul, ua_ua, ua_s, ua_n, not_false_eq_true, Nat.reduceEqDiff, xi_n (show 42 * ix x + ix y < 1764 by omega) (show 1764 < 2147483648 by decide), ht.2]
          exact hX
        · rw [if_neg z1] at hX
          rw [if_pos z1]
          exact hX
    · rw [if_neg (fun z => hy z.2)] at hX
      simp only [s124_0, s124_1, s124_2, s124_5, s124_8, s124_9, s124_10, s124_13, s124_16, s124_17, s124_18, s124_19, s124_22, s124_23, s124_26, s124_28, s124_29, s124_30, s124_31, s124_32, s124_33, s124_36, s124_37, s124_38, s124_41, s124_42, s124_45, s124_47, s124_48, s124_49, s124_50, s124_51, s124_52, s124_55, s124_57, mis, mg1, mg2, mg3, mg4, mg5, mg6, mg7, mg8, mg9, mg10, mg11, mg12, mg13, mg14, mg15, mg16, mg17, mg18, mg19, mg20, mg21, mg22, ms1, ms2, ms3, ms4, ms5, ms6, ms7, ms8, ms9, ms10, ms11, ms12, ms13, ms14, ms15, ms16, ms17, ms18, ms19, ms20, ms21, ms22, mf0, mf1, mf2, mf3, mf4, mf5, mf6, mf7, mf8, mf9, mf10, mf11, mf12, mf13, mf14, mf15, mf16, mf17, mf18, mf19, mf20, mf21, mf22, mf23, mf24, mf25, mf26, mp4, mp7, mp22, mp25, mp26, mq_0, al_I, as_I, zl_Z, zs_0, zs_1, Nat.reduceAdd, Nat.reduceLeDiff, Nat.zero_le, cat_0, cat_i, cat_r, opt_n, opt_s, true_and, nI_add, pk_mul, ua_ua, ua_s, ua_n, not_false_eq_true, Nat.reduceEqDiff, r_isD h1 h2 hT, if_pos hx, if_neg hy, i10, i10n, not_true_eq_false, if_false, if_true]
      exact hX
  · rw [if_neg (fun z => hx z.1)] at hX
    simp only [s124_0, s124_1, s124_2, s124_5, s124_8, s124_9, s124_10, s124_13, s124_16, s124_17, s124_18, s124_19, s124_22, s124_23, s124_26, s124_28, s124_29, s124_30, s124_31, s124_32, s124_33, s124_36, s124_37, s124_38, s124_41, s124_42, s124_45, s124_47, s124_48, s124_49, s124_50, s124_51, s124_52, s124_55, s124_57, mis, mg1, mg2, mg3, mg4, mg5, mg6, mg7, mg8, mg9, mg10, mg11, mg12, mg13, mg14, mg15, mg16, mg17, mg18, mg19, mg20, mg21, mg22, ms1, ms2, ms3, ms4, ms5, ms6, ms7, ms8, ms9, ms10, ms11, ms12, ms13, ms14, ms15, ms16, ms17, ms18, ms19, ms20, ms21, ms22, mf0, mf1, mf2, mf3, mf4, mf5, mf6, mf7, mf8, mf9, mf10, mf11, mf12, mf13, mf14, mf15, mf16, mf17, mf18, mf19, mf20, mf21, mf22, mf23, mf24, mf25, mf26, mp4, mp7, mp22, mp25, mp26, mq_0, al_I, as_I, zl_Z, zs_0, zs_1, Nat.reduceAdd, Nat.reduceLeDiff, Nat.zero_le, cat_0, cat_i, cat_r, opt_n, opt_s, true_and, nI_add, pk_mul, ua_ua, ua_s, ua_n, not_false_eq_true, Nat.reduceEqDiff, r_isD h1 h2 hT, if_neg hx, i10, i10n, not_true_eq_false, if_false, if_true]
    exact hX
theorem l_wy {i : Nat} {x0 : Value} (h1 : 1 ≤ v) (h2 : v ≤ 5) (hi : i < 100) (hw : wInv v (tC v) A) {res : Nat} (hr : res < tC v) (hr0 : res ≠ 0) (hX : X (some (.int (nI (tLh v res)))) (mdl M A g)) : ∀ (n d : Nat), d < tC v → wyb v i n d = some res → ex_W 125 35 [.ref M, x0, .int (nI i), .int (nI d)] [] (mdl M A g) X := by
  have hC := tC_le h1 h2
  intro n
  induction n with
  | zero => intro d hd he; cases he
  | succ n ih =>
    intro d hd he
    rw [wyb] at he
    have hw2 := hw.2.1 d hd
    have hwp := (tLw1 h1 h2 hd).2.2.2.2.1
    rw [if_pos hwp] at hw2
    obtain ⟨_, _, _, t4, _, t6⟩ := tTu_lt h1 h2 hd
    rw [s125_35]
    simp only [s125_0, s125_1, s125_2, s125_5, s125_8, s125_9, s125_10, s125_11, s125_14, s125_15, s125_16, s125_17, s125_20, s125_21, s125_22, s125_23, s125_24, s125_27, s125_30, s125_32, s125_33, s125_34, s125_36, s125_39, s125_40, s125_41, s125_42, s125_43, s125_44, s125_47, s125_48, s125_51, s125_52, s125_53, s125_54, s125_58, s125_61, s125_62, s125_63, mis, mg1, mg2, mg3, mg4, mg5, mg6, mg7, mg8, mg9, mg10, mg11, mg12, mg13, mg14, mg15, mg16, mg17, mg18, mg19, mg20, mg21, mg22, ms1, ms2, ms3, ms4, ms5, ms6, ms7, ms8, ms9, ms10, ms11, ms12, ms13, ms14, ms15, ms16, ms17, ms18, ms19, ms20, ms21, ms22, mf0, mf1, mf2, mf3, mf4, mf5, mf6, mf7, mf8, mf9, mf10, mf11, mf12, mf13, mf14, mf15, mf16, mf17, mf18, mf19, mf20, mf21, mf22, mf23, mf24, mf25, mf26, mp4, mp7, mp22, mp25, mp26, mq_0, al_I, as_I, zl_Z, zs_0, zs_1, Nat.reduceAdd, Nat.reduceLeDiff, Nat.zero_le, cat_0, cat_i, cat_r, opt_n, opt_s, true_and, nI_add, pk_mul, ua_ua, ua_s, ua_n, not_false_eq_true, Nat.reduceEqDiff, xi_n (show d < 42 by omega) (show 42 < 2147483648 by decide), hw2]
    by_cases hc : tStep v d ≤ i + 1
    · rw [if_pos hc] at he
      cases he
      rw [if_pos ((nI_l1 (by omega) (by omega)).mpr (by omega))]
      simp only [s125_0, s125_1, s125_2, s125_5, s125_8, s125_9, s125_10, s125_11, s125_14, s125_15, s125_16, s125_17, s125_20, s125_21, s125_22, s125_23, s125_24, s125_27, s125_30, s125_32, s125_33, s125_34, s125_36, s125_39, s125_40, s125_41, s125_42, s125_43, s125_44, s125_47, s125_48, s125_51, s125_52, s125_53, s125_54, s125_57, s125_58, s125_61, s125_62, s125_63, mis, mg1, mg2, mg3, mg4, mg5, mg6, mg7, mg8, mg9, mg10, mg11, mg12, mg13, mg14, mg15, mg16, mg17, mg18, mg19, mg20, mg21, mg22, ms1, ms2, ms3, ms4, ms5, ms6, ms7, ms8, ms9, ms10, ms11, ms12, ms13, ms14, ms15, ms16, ms17, ms18, ms19, ms20, ms21, ms22, mf0, mf1, mf2, mf3, mf4, mf5, mf6, mf7, mf8, mf9, mf10, mf11, mf12, mf13, mf14, mf15, mf16, mf17, mf18, mf19, mf20, mf21, mf22, mf23, mf24, mf25, mf26, mp4, mp7, mp22, mp25, mp26, mq_0, al_I, as_I, zl_Z, zs_0, zs_1, Nat.reduceAdd, Nat.reduceLeDiff, Nat.zero_le, cat_0, cat_i, cat_r, opt_n, opt_s, true_and, nI_add, pk_mul, ua_ua, ua_s, ua_n, not_false_eq_true, Nat.reduceEqDiff, xi_n (show res < 42 by omega) (show 42 < 2147483648 by decide), (hw.2.2 res hd hr0 hwp).2]
      exact hX
    · rw [if_neg hc] at he
      by_cases hd0 : d = 0
      · rw [if_pos hd0] at he
        cases he
      · rw [if_neg hd0] at he
        rw [if_neg (fun z => absurd ((nI_l1 (by omega) (by omega)).mp z) (by omega))]
        rw [(hw.2.2 d hd hd0 hwp).1]
        exact ih _ t4 he
theorem r_way {x y : Int32} (h1 : 1 ≤ v) (h2 : v ≤ 5) (hv : A 1 0 = nI v) (hT : mTab v A) (hX : ∀ B, mKeep A B → X (some (.int (aWy v x y))) (mdl M B g)) : ex_W 125 0 [.ref M, .int x, .int y, oU] [] (mdl M A g) X := by
  have hC := tC_le h1 h2
  unfold aWy at hX
  by_cases hx : isW 0 (tC v - 1) x
  · obtain ⟨_, q2, q3⟩ := isW_e (by decide) (by omega) hx
    have hd : ix x < tC v := by omega
    rw [if_pos hx] at hX
    obtain ⟨_, _, _, t4, _, t6⟩ := tTu_lt h1 h2 hd
    simp only [s125_0, s125_1, s125_2, s125_5, s125_8, s125_9, s125_10, s125_11, s125_14, s125_15, s125_16, s125_17, s125_20, s125_21, s125_22, s125_23, s125_24, s125_27, s125_30, s125_32, s125_33, s125_34, s125_36, s125_39, s125_40, s125_41, s125_42, s125_43, s125_44, s125_47, s125_48, s125_51, s125_52, s125_53, s125_54, s125_57, s125_58, s125_61, s125_62, s125_63, mis, mg1, mg2, mg3, mg4, mg5, mg6, mg7, mg8, mg9, mg10, mg11, mg12, mg13, mg14, mg15, mg16, mg17, mg18, mg19, mg20, mg21, mg22, ms1, ms2, ms3, ms4, ms5, ms6, ms7, ms8, ms9, ms10, ms11, ms12, ms13, ms14, ms15, ms16, ms17, ms18, ms19, ms20, ms21, ms22, mf0, mf1, mf2, mf3, mf4, mf5, mf6, mf7, mf8, mf9, mf10, mf11, mf12, mf13, mf14, mf15, mf16, mf17, mf18, mf19, mf20, mf21, mf22, mf23, mf24, mf25, mf26, mp4, mp7, mp22, mp25, mp26, mq_0, al_I, as_I, zl_Z, zs_0, zs_1, Nat.reduceAdd, Nat.reduceLeDiff, Nat.zero_le, cat_0, cat_i, cat_r, opt_n, opt_s, true_and, nI_add, pk_mul, ua_ua, ua_s, ua_n, not_false_eq_true, Nat.reduceEqDiff, r_isD h1 h2 hT, if_pos hx, i10, i10n, not_true_eq_false, if_false, if_true]
    refine r_layWays h1 h2 hv hT (fun B hB hw => ?_)
    have hw2 := hw.2.1 _ hd
    rw [if_pos (tLw1 h1 h2 hd).2.2.2.2.1] at hw2
    rw [← q3]
    simp only [s125_0, s125_1, s125_2, s125_5, s125_8, s125_9, s125_10, s125_11, s125_14, s125_15, s125_16, s125_17, s125_20, s125_21, s125_22, s125_23, s125_24, s125_27, s125_30, s125_32, s125_33, s125_34, s125_36, s125_39, s125_40, s125_41, s125_42, s125_43, s125_44, s125_47, s125_48, s125_51, s125_52, s125_53, s125_54, s125_57, s125_58, s125_61, s125_62, s125_63, mis, mg1, mg2, mg3, mg4, mg5, mg6, mg7, mg8, mg9, mg10, mg11, mg12, mg13, mg14, mg15, mg16, mg17, mg18, mg19, mg20, mg21, mg22, ms1, ms2, ms3, ms4, ms5, ms6, ms7, ms8, ms9, ms10, ms11, ms12, ms13, ms14, ms15, ms16, ms17, ms18, ms19, ms20, ms21, ms22, mf0, mf1, mf2, mf3, mf4, mf5, mf6, mf7, mf8, mf9, mf10, mf11, mf12, mf13, mf14, mf15, mf16, mf17, mf18, mf19, mf20, mf21, mf22, mf23, mf24, mf25, mf26, mp4, mp7, mp22, mp25, mp26, mq_0, al_I, as_I, zl_Z, zs_0, zs_1, Nat.reduceAdd, Nat.reduceLeDiff, Nat.zero_le, cat_0, cat_i, cat_r, opt_n, opt_s, true_and, nI_add, pk_mul, ua_ua, ua_s, ua_n, not_false_eq_true, Nat.reduceEqDiff, xi_n (show ix x < 42 by omega) (show 42 < 2147483648 by decide), hw2, r_in]
    by_cases hs : tStep v (ix x) = 0
    · have hno : ¬ (nI 0 ≤ y ∧ y ≤ nI (tStep v (ix x)) - nI 1) := fun z => by
        rw [hs] at z
        have := Int32.le_trans z.1 z.2
        exact absurd this (by decide)
      rw [if_neg hno]
      rw [if_neg (fun z => by
        rw [hs] at z
        exact absurd (Int32.not_lt.mpr z.1) (fun q => q z.2))] at hX
      simp only [i10, i10n, not_true_eq_false, if_false, if_true]
      exact hX B hB
    · rw [pk_sub (by omega)]
      by_cases hy : isW 0 (tStep v (ix x) - 1) y
      · obtain ⟨_, p2, p3⟩ := isW_e (by decide) (by omega) hy
        have hyl : ix y < tStep v (ix x) := by omega
        rw [if_pos ⟨hy.1, by rw [← p3]; exact (nI_l2 (by omega) (by omega)).mpr hyl⟩] at hX
        rw [if_pos hy]
        simp only [i10, i10n, not_true_eq_false, if_false, if_true]
        obtain ⟨e, e1, e2, e3, e4⟩ := tWyb h1 h2 hd hyl
        rw [← p3]
        refine l_wy h1 h2 (by omega) hw e2 e3 ?_ 43 (ix x) hd e1
        rw [e4]
        exact hX B hB
      · rw [if_neg (fun z => hy ⟨z.1, by
          rcases pk_ix y (n := tStep v (ix x)) (by have e : (2:Nat)^31 = 2147483648 := rfl; omega) with k | k | ⟨j, k1, k2⟩
          · exact absurd k (Int32.not_lt.mpr z.1)
          · exact absurd z.2 (Int32.not_lt.mpr k)
          · rw [k2]; exact ((nI_l1 (by omega) (by omega)).mpr (by omega))⟩)] at hX
        rw [if_neg hy]
        simp only [i10, i10n, not_true_eq_false, if_false, if_true]
        exact hX B hB
  · simp only [s125_0, s125_1, s125_2, s125_5, s125_8, s125_9, s125_10, s125_11, s125_14, s125_15, s125_16, s125_17, s125_20, s125_21, s125_22, s125_23, s125_24, s125_27, s125_30, s125_32, s125_33, s125_34, s125_36, s125_39, s125_40, s125_41, s125_42, s125_43, s125_44, s125_47, s125_48, s125_51, s125_52, s125_53, s125_54, s125_57, s125_58, s125_61, s125_62, s125_63, mis, mg1, mg2, mg3, mg4, mg5, mg6, mg7, mg8, mg9, mg10, mg11, mg12, mg13, mg14, mg15, mg16, mg17, mg18, mg19, mg20, mg21, mg22, ms1, ms2, ms3, ms4, ms5, ms6, ms7, ms8, ms9, ms10, ms11, ms12, ms13, ms14, ms15, ms16, ms17, ms18, ms19, ms20, ms21, ms22, mf0, mf1, mf2, mf3, mf4, mf5, mf6, mf7, mf8, mf9, mf10, mf11, mf12, mf13, mf14, mf15, mf16, mf17, mf18, mf19, mf20, mf21, mf22, mf23, mf24, mf25, mf26, mp4, mp7, mp22, mp25, mp26, mq_0, al_I, as_I, zl_Z, zs_0, zs_1, Nat.reduceAdd, Nat.reduceLeDiff, Nat.zero_le, cat_0, cat_i, cat_r, opt_n, opt_s, true_and, nI_add, pk_mul, ua_ua, ua_s, ua_n, not_false_eq_true, Nat.reduceEqDiff, r_isD h1 h2 hT, if_neg hx, i10, i10n, not_true_eq_false, if_false, if_true]
    rw [if_neg hx] at hX
    exact hX A mKeep.rfl'
end M7
