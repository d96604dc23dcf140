/-! THE REFERENCE: both, times, turn, trace, brackets, projectors -/
theorem tTt_k : all5 (fun v => allN (tC v) (fun d => decide (tTu v (tTu v d) = d))) = true := by decide +kernel
theorem tTt {v d : Nat} (h1 : 1 ≤ v) (h2 : v ≤ 5) (hd : d < tC v) : tTu v (tTu v d) = d := of_decide_eq_true (allN_of (all5_of tTt_k h1 h2) hd)
def bothW (v p lo : Nat) (L R : Nat → Nat) (w : Int32) : Nat → Nat := fun d => if w = nI 0 then (L d + R d) % p else if w = nI 1 then (L d + p - R d) % p else pil v p lo L R d
def okS (v p : Nat) (S : Nat → Nat → Nat) : Prop := ∀ s, s < 5 → ∀ d, S s d < p ∧ (tC v ≤ d → S s d = 0)
section M10
variable {M : Nat} {A : Nat → Nat → Int32} {g h : ex_Hp} {X : Option Value → ex_Hp → Prop} {v a b d p lo s : Nat} {f0 : Nat → Int32} {S : Nat → Nat → Nat}
theorem mTab.sub {B : Nat → Nat → Int32} (hT : mTab v A) (h0 : B 0 = A 0) (h : ∀ k, 1 ≤ k → k ≤ 8 → B k = A k) : mTab v B := hT.keep ⟨by rw [h0], by rw [h0], h⟩
theorem l_bo {o q : Nat} {w : Int32} {A0 : Nat → Nat → Int32} {l1 : Value} (h1 : 1 ≤ v) (h2 : v ≤ 5) (hp : 2 ≤ p) (hp2 : p ≤ 101) (hT : mTab v A0) (hS : mSt v p lo S (A0 1)) (hSl : ∀ s, s < 5 → ∀ d, S s d < p) (ho : o < 5) (hq : q < 5) (hX : ∀ B, mKeep A0 B → (∀ d, d < tC v → B 17 d = nI (S o d) ∧ B 18 d = nI (S q d) ∧ B 16 d = nI (if w = nI 0 then (S o d + S q d) % p else (S o d + p - S q d) % p)) → ex_W 136 141 [.ref M, l1, .int (nI o), .int (nI q), .int w, .int (nI (tC v))] [] (mdl M B g) X) : ∀ (n t : Nat) (A : Nat → Nat → Int32), n + t = tC v → mKeep A0 A → (∀ d, d < t → A 17 d = nI (S o d) ∧ A 18 d = nI (S q d) ∧ A 16 d = nI (if w = nI 0 then (S o d + S q d) % p else (S o d + p - S q d) % p)) → ex_W 136 39 [.ref M, l1, .int (nI o), .int (nI q), .int w, .int (nI t)] [] (mdl M A g) X := by
  have hC := tC_le h1 h2
  intro n
  induction n with
  | zero =>
    intro t A hn hA hd
    obtain rfl : t = tC v := by omega
    rw [s136_39]
    simp only [s136_0, s136_1, s136_4, s136_7, s136_8, s136_11, s136_14, s136_15, s136_18, s136_21, s136_22, s136_23, s136_25, s136_26, s136_27, s136_30, s136_33, s136_35, s136_36, s136_37, s136_41, s136_42, s136_45, s136_48, s136_49, s136_52, s136_54, s136_55, s136_58, s136_59, s136_60, s136_62, s136_65, s136_66, s136_67, s136_68, s136_71, s136_73, s136_74, s136_77, s136_78, s136_79, s136_81, s136_84, s136_85, s136_86, s136_87, s136_90, s136_92, s136_93, s136_95, s136_98, s136_99, s136_102, s136_104, s136_105, s136_106, s136_109, s136_111, s136_112, s136_113, s136_116, s136_117, s136_120, s136_122, s136_123, s136_124, s136_127, s136_129, s136_130, s136_131, s136_134, s136_135, s136_138, s136_143, s136_144, s136_147, s136_148, s136_151, s136_152, s136_153, s136_156, mis, mg1, mg2, mg3, mg4, mg5, mg6, mg7, mg8, mg9, mg10, mg11, mg12, mg13, mg14, mg15, mg16, mg17, mg18, mg19, mg20, mg21, mg22, ms1, ms2, ms3, ms4, ms5, ms6, ms7, ms8, ms9, ms10, ms11, ms12, ms13, ms14, ms15, ms16, ms17, ms18, ms19, ms20, ms21, ms22, mf0, mf1, mf2, mf3, mf4, mf5, mf6, mf7, mf8, mf9, mf10, mf11, mf12, mf13, mf14, mf15, mf16, mf17, mf18, mf19, mf20, mf21, mf22, mf23, mf24, mf25, mf26, mp4, mp7, mp22, mp25, mp26, mq_0, al_I, as_I, zl_Z, zs_0, zs_1, Nat.reduceAdd, Nat.reduceLeDiff, Nat.zero_le, cat_0, cat_i, cat_r, opt_n, opt_s, true_and, nI_add, pk_mul, ua_ua, ua_s, ua_n, not_false_eq_true, Nat.reduceEqDiff, (hT.keep hA).1]
    rw [if_pos ((nI_l1 (by omega) (by omega)).mpr (by omega))]
    exact hX A hA hd
  | succ n ih =>
    intro t A hn hA hd
    have hS' : mSt v p lo S (A 1) := by rw [hA.one]; exact hS
    have e1 := hS'.2.2.2 o ho t (by omega)
    have e2 := hS'.2.2.2 q hq t (by omega)
    have hp1 := hS'.2.1
    have q1 := hSl o ho t
    have q2 := hSl q hq t
    rw [s136_39]
    simp only [s136_0, s136_1, s136_4, s136_7, s136_8, s136_11, s136_14, s136_15, s136_18, s136_21, s136_22, s136_23, s136_25, s136_26, s136_27, s136_30, s136_33, s136_35, s136_36, s136_37, s136_41, s136_42, s136_45, s136_48, s136_49, s136_52, s136_54, s136_55, s136_58, s136_59, s136_60, s136_62, s136_65, s136_66, s136_67, s136_68, s136_71, s136_73, s136_74, s136_77, s136_78, s136_79, s136_81, s136_84, s136_85, s136_86, s136_87, s136_90, s136_92, s136_93, s136_95, s136_98, s136_99, s136_102, s136_104, s136_105, s136_106, s136_109, s136_111, s136_112, s136_113, s136_116, s136_117, s136_120, s136_122, s136_123, s136_124, s136_127, s136_129, s136_130, s136_131, s136_134, s136_135, s136_138, s136_143, s136_144, s136_147, s136_148, s136_151, s136_152, s136_153, s136_156, mis, mg1, mg2, mg3, mg4, mg5, mg6, mg7, mg8, mg9, mg10, mg11, mg12, mg13, mg14, mg15, mg16, mg17, mg18, mg19, mg20, mg21, mg22, ms1, ms2, ms3, ms4, ms5, ms6, ms7, ms8, ms9, ms10, ms11, ms12, ms13, ms14, ms15, ms16, ms17, ms18, ms19, ms20, ms21, ms22, mf0, mf1, mf2, mf3, mf4, mf5, mf6, mf7, mf8, mf9, mf10, mf11, mf12, mf13, mf14, mf15, mf16, mf17, mf18, mf19, mf20, mf21, mf22, mf23, mf24, mf25, mf26, mp4, mp7, mp22, mp25, mp26, mq_0, al_I, as_I, zl_Z, zs_0, zs_1, Nat.reduceAdd, Nat.reduceLeDiff, Nat.zero_le, cat_0, cat_i, cat_r, opt_n, opt_s, true_and, nI_add, pk_mul, ua_ua, ua_s, ua_n, not_false_eq_true, Nat.reduceEqDiff, (hT.keep hA).1, r_place, xi_n (show 3 + 42 * o + t < 213 by omega) (show 213 < 2147483648 by decide), xi_n (show 3 + 42 * q + t < 213 by omega) (show 213 < 2147483648 by decide), xi_n (show t < 42 by omega) (show 42 < 2147483648 by decide), e1, e2, pk_us]
    rw [if_neg (fun z => absurd ((nI_l1 (by omega) (by omega)).mp z) (by omega))]
    have key : ∀ z : Nat, z = (if w = nI 0 then (S o t + S q t) % p else (S o t + p - S q t) % p) → ex_W 136 39 [.ref M, l1, .int (nI o), .int (nI q), .int w, .int (nI (t + 1))] [] (mdl M (ua (ua (ua A 17 (upd (A 17) t (nI (S o t)))) 18 (upd (A 18) t (nI (S q t)))) 16 (upd (A 16) t (nI z))) g) X := by
      intro z hz
      refine ih (t + 1) _ (by omega) (((hA.uk (by decide)).uk (by decide)).uk (by decide)) (fun e he => ?_)
      rw [ua_n (by decide), ua_n (by decide), ua_s, ua_n (by decide), ua_s, ua_s]
      by_cases hc : e = t
      · rw [hc, pk_us, pk_us, pk_us, hz]
        exact ⟨rfl, rfl, rfl⟩
      · rw [pk_un hc, pk_un hc, pk_un hc]
        exact hd e (by omega)
    by_cases hw : w = nI 0
    · rw [if_neg (fun z => z hw)]
      rw [r_by hp hp2 (by rw [ua_n (by decide), ua_n (by decide)]; exact hp1), nF_n hp (by omega) (by omega)]
      simp only [s136_0, s136_1, s136_4, s136_7, s136_8, s136_11, s136_14, s136_15, s136_18, s136_21, s136_22, s136_23, s136_25, s136_26, s136_27, s136_30, s136_33, s136_35, s136_36, s136_37, s136_41, s136_42, s136_45, s136_48, s136_49, s136_52, s136_54, s136_55, s136_58, s136_59, s136_60, s136_62, s136_65, s136_66, s136_67, s136_68, s136_71, s136_73, s136_74, s136_77, s136_78, s136_79, s136_81, s136_84, s136_85, s136_86, s136_87, s136_90, s136_92, s136_93, s136_95, s136_98, s136_99, s136_102, s136_104, s136_105, s136_106, s136_109, s136_111, s136_112, s136_113, s136_116, s136_117, s136_120, s136_122, s136_123, s136_124, s136_127, s136_129, s136_130, s136_131, s136_134, s136_135, s136_138, s136_143, s136_144, s136_147, s136_148, s136_151, s136_152, s136_153, s136_156, mis, mg1, mg2, mg3, mg4, mg5, mg6, mg7, mg8, mg9, mg10, mg11, mg12, mg13, mg14, mg15, mg16, mg17, mg18, mg19, mg20, mg21, mg22, ms1, ms2, ms3, ms4, ms5, ms6, ms7, ms8, ms9, ms10, ms11, ms12, ms13, ms14, ms15, ms16, ms17, ms18, ms19, ms20, ms21, ms22, mf0, mf1, mf2, mf3, mf4, mf5, mf6, mf7, mf8, mf9, mf10, mf11, mf12, mf13, mf14, mf15, mf16, mf17, mf18, mf19, mf20, mf21, mf22, mf23, mf24, mf25, mf26, mp4, mp7, mp22, mp25, mp26, mq_0, al_I, as_I, zl_Z, zs_0, zs_1, Nat.reduceAdd, Nat.reduceLeDiff, Nat.zero_le, cat_0, cat_i, cat_r, opt_n, opt_s, true_and, nI_add, pk_mul, ua_ua, ua_s, ua_n, not_false_eq_true, Nat.reduceEqDiff, xi_n (show t < 42 by omega) (show 42 < 2147483648 by decide)]
      refine key _ ?_
      rw [if_pos hw]
    · rw [if_pos hw]
      rw [r_by hp hp2 (by rw [ua_n (by decide), ua_n (by decide)]; exact hp1), nF_s hp (by omega) (by omega) (by omega)]
      simp only [s136_0, s136_1, s136_4, s136_7, s136_8, s136_11, s136_14, s136_15, s136_18, s136_21, s136_22, s136_23, s136_25, s136_26, s136_27, s136_30, s136_33, s136_35, s136_36, s136_37, s136_41, s136_42, s136_45, s136_48, s136_49, s136_52, s136_54, s136_55, s136_58, s136_59, s136_60, s136_62, s136_65, s136_66, s136_67, s136_68, s136_71, s136_73, s136_74, s136_77, s136_78, s136_79, s136_81, s136_84, s136_85, s136_86, s136_87, s136_90, s136_92, s136_93, s136_95, s136_98, s136_99, s136_102, s136_104, s136_105, s136_106, s136_109, s136_111, s136_112, s136_113, s136_116, s136_117, s136_120, s136_122, s136_123, s136_124, s136_127, s136_129, s136_130, s136_131, s136_134, s136_135, s136_138, s136_143, s136_144, s136_147, s136_148, s136_151, s136_152, s136_153, s136_156, mis, mg1, mg2, mg3, mg4, mg5, mg6, mg7, mg8, mg9, mg10, mg11, mg12, mg13, mg14, mg15, mg16, mg17, mg18, mg19, mg20, mg21, mg22, ms1, ms2, ms3, ms4, ms5, ms6, ms7, ms8, ms9, ms10, ms11, ms12, ms13, ms14, ms15, ms16, ms17, ms18, ms19, ms20, ms21, ms22, mf0, mf1, mf2, mf3, mf4, mf5, mf6, mf7, mf8, mf9, mf10, mf11, mf12, mf13, mf14, mf15, mf16, mf17, mf18, mf19, mf20, mf21, mf22, mf23, mf24, mf25, mf26, mp4, mp7, mp22, mp25, mp26, mq_0, al_I, as_I, zl_Z, zs_0, zs_1, Nat.reduceAdd, Nat.reduceLeDiff, Nat.zero_le, cat_0, cat_i, cat_r, opt_n, opt_s, true_and, nI_add, pk_mul, ua_ua, ua_s, ua_n, not_false_eq_true, Nat.reduceEqDiff, xi_n (show t < 42 by omega) (show 42 < 2147483648 by decide)]
      refine key _ ?_
      rw [if_neg hw]
theorem r_giveS {B : Nat → Nat → Int32} {W : Nat → Nat} (h1 : 1 ≤ v) (h2 : v ≤ 5) (hT : mTab v A) (hS : mSt v p lo S (A 1)) (hB : mKeep A B) (hs : s < 5) (hW : ∀ d, d < tC v → B 16 d = nI (W d)) (hWl : ∀ d, W d < 1000) (hX : ∀ B, mKeep (ua A 1 (B 1)) B → mSt v p lo (setS S s (tC v) W) (B 1) → X (some (.int (nI (cntP W (tC v))))) (mdl M B g)) : ex_W 134 0 [.ref M, .int (nI s), oU, oU] [] (mdl M B g) X := by
  have hC := tC_le h1 h2
  refine r_give h1 h2 (hT.keep hB).1 hs hW hWl (hX _ ⟨?_, ?_, fun k k1 k2 => ?_⟩ ?_)
  · rw [ua_n (by decide), ua_n (by decide)]; exact hB.1
  · rw [ua_n (by decide), ua_n (by decide)]; exact hB.2.1
  · by_cases hk : k = 1
    · rw [hk, ua_s, ua_s]
    · rw [ua_n hk, ua_n hk]
      exact hB.2.2 k k1 k2
  · rw [ua_s]
    refine mSt.gv ?_ hC.2 hW
    rw [hB.one]
    exact hS
theorem r_both_no {x y z w : Int32} (hc : ¬ ((isW 0 4 x ∧ isW 0 4 y ∧ isW 0 4 z) ∧ isW 0 2 w)) (hX : X (some (.int (if isW 0 4 x ∧ isW 0 4 y ∧ isW 0 4 z then -2 else -1))) (mdl M A g)) : ex_W 136 0 [.ref M, .int x, .int y, .int z, .int w, oU] [] (mdl M A g) X := by
  by_cases hx : isW 0 4 x
  · by_cases hy : isW 0 4 y
    · by_cases hz : isW 0 4 z
      · have hw : ¬ isW 0 2 w := fun q => hc ⟨⟨hx, hy, hz⟩, q⟩
        rw [if_pos ⟨hx, hy, hz⟩] at hX
        simp only [s136_0, s136_1, s136_4, s136_7, s136_8, s136_11, s136_14, s136_15, s136_18, s136_21, s136_22, s136_23, s136_25, s136_26, s136_27, s136_30, s136_33, s136_35, s136_36, s136_37, s136_41, s136_42, s136_45, s136_48, s136_49, s136_52, s136_54, s136_55, s136_58, s136_59, s136_60, s136_62, s136_65, s136_66, s136_67, s136_68, s136_71, s136_73, s136_74, s136_77, s136_78, s136_79, s136_81, s136_84, s136_85, s136_86, s136_87, s136_90, s136_92, s136_93, s136_95, s136_98, s136_99, s136_102, s136_104, s136_105, s136_106, s136_109, s136_111, s136_112, s136_113, s136_116, s136_117, s136_120, s136_122, s136_123, s136_124, s136_127, s136_129, s136_130, s136_131, s136_134, s136_135, s136_138, s136_141, s136_143, s136_144, s136_147, s136_148, s136_151, s136_152, s136_153, s136_156, mis, mg1, mg2, mg3, mg4, mg5, mg6, mg7, mg8, mg9, mg10, mg11, mg12, mg13, mg14, mg15, mg16, mg17, mg18, mg19, mg20, mg21, mg22, ms1, ms2, ms3, ms4, ms5, ms6, ms7, ms8, ms9, ms10, ms11, ms12, ms13, ms14, ms15, ms16, ms17, ms18, ms19, ms20, ms21, ms22, mf0, mf1, mf2, mf3, mf4, mf5, mf6, mf7, mf8, mf9, mf10, mf11, mf12, mf13, mf14, mf15, mf16, mf17, mf18, mf19, mf20, mf21, mf22, mf23, mf24, mf25, mf26, mp4, mp7, mp22, mp25, mp26, mq_0, al_I, as_I, zl_Z, zs_0, zs_1, Nat.reduceAdd, Nat.reduceLeDiff, Nat.zero_le, cat_0, cat_i, cat_r, opt_n, opt_s, true_and, nI_add, pk_mul, ua_ua, ua_s, ua_n, not_false_eq_true, Nat.reduceEqDiff, r_isS, r_inW, if_pos hx, if_pos hy, if_pos hz, if_neg hw, i10, i10n, not_true_eq_false, if_false, if_true]
        exact hX
      · rw [if_neg (fun q => hz q.2.2)] at hX
        simp only [s136_0, s136_1, s136_4, s136_7, s136_8, s136_11, s136_14, s136_15, s136_18, s136_21, s136_22, s136_23, s136_25, s136_26, s136_27, s136_30, s136_33, s136_35, s136_36, s136_37, s136_41, s136_42, s136_45, s136_48, s136_49, s136_52, s136_54, s136_55, s136_58, s136_59, s136_60, s136_62, s136_65, s136_66, s136_67, s136_68, s136_71, s136_73, s136_74, s136_77, s136_78, s136_79, s136_81, s136_84, s136_85, s136_86, s136_87, s136_90, s136_92, s136_93, s136_95, s136_98, s136_99, s136_102, s136_104, s136_105, s136_106, s136_109, s136_111, s136_112, s136_113, s136_116, s136_117, s136_120, s136_122, s136_123, s136_124, s136_127, s136_129, s136_130, s136_131, s136_134, s136_135, s136_138, s136_141, s136_143, s136_144, s136_147, s136_148, s136_151, s136_152, s136_153, s136_156, mis, mg1, mg2, mg3, mg4, mg5, mg6, mg7, mg8, mg9, mg10, mg11, mg12, mg13, mg14, mg15, mg16, mg17, mg18, mg19, mg20, mg21, mg22, ms1, ms2, ms3, ms4, ms5, ms6, ms7, ms8, ms9, ms10, ms11, ms12, ms13, ms14, ms15, ms16, ms17, ms18, ms19, ms20, ms21, ms22, mf0, mf1, mf2, mf3, mf4, mf5, mf6, mf7, mf8, mf9, mf10, mf11, mf12, mf13, mf14, mf15, mf16, mf17, mf18, mf19, mf20, mf21, mf22, mf23, mf24, mf25, mf26, mp4, mp7, mp22, mp25, mp26, mq_0, al_I, as_I, zl_Z, zs_0, zs_1, Nat.reduceAdd, Nat.reduceLeDiff, Nat.zero_le, cat_0, cat_i, cat_r, opt_n, opt_s, true_and, nI_add, pk_mul, ua_ua, ua_s, ua_n, not_false_eq_true, Nat.reduceEqDiff, r_isS, if_pos hx, if_pos hy, if_neg hz, i10, i10n, not_true_eq_false, if_false, if_true]
        exact hX
    · rw [if_neg (fun q => hy q.2.1)] at hX
      simp only [s136_0, s136_1, s136_4, s136_7, s136_8, s136_11, s136_14, s136_15, s136_18, s136_21, s136_22, s136_23, s136_25, s136_26, s136_27, s136_30, s136_33, s136_35, s136_36, s136_37, s136_41, s136_42, s136_45, s136_48, s136_49, s136_52, s136_54, s136_55, s136_58, s136_59, s136_60, s136_62, s136_65, s136_66, s136_67, s136_68, s136_71, s136_73, s136_74, s136_77, s136_78, s136_79, s136_81, s136_84, s136_85, s136_86, s136_87, s136_90, s136_92, s136_93, s136_95, s136_98, s136_99, s136_102, s136_104, s136_105, s136_106, s136_109, s136_111, s136_112, s136_113, s136_116, s136_117, s136_120, s136_122, s136_123, s136_124, s136_127, s136_129, s136_130, s136_131, s136_134, s136_135, s136_138, s136_141, s136_143, s136_144, s136_147, s136_148, s136_151, s136_152, s136_153, s136_156, mis, mg1, mg2, mg3, mg4, mg5, mg6, mg7, mg8, mg9, mg10, mg11, mg12, mg13, mg14, mg15, mg16, mg17, mg18, mg19, mg20, mg21, mg22, ms1, ms2, ms3, ms4, ms5, ms6, ms7, ms8, ms9, ms10, ms11, ms12, ms13, ms14, ms15, ms16, ms17, ms18, ms19, ms20, ms21, ms22, mf0, mf1, mf2, mf3, mf4, mf5, mf6, mf7, mf8, mf9, mf10, mf11, mf12, mf13, mf14, mf15, mf16, mf17, mf18, mf19, mf20, mf21, mf22, mf23, mf24, mf25, mf26, mp4, mp7, mp22, mp25, mp26, mq_0, al_I, as_I, zl_Z, zs_0, zs_1, Nat.reduceAdd, Nat.reduceLeDiff, Nat.zero_le, cat_0, cat_i, cat_r, opt_n, opt_s, true_and, nI_add, pk_mul, ua_ua, ua_s, ua_n, not_false_eq_true, Nat.reduceEqDiff, r_isS, if_pos hx, if_neg hy, i10, i10n, not_true_eq_false, if_false, if_true]
      exact hX
  · rw [if_neg (fun q => hx q.1)] at hX
    simp only [s136_0, s136_1, s136_4, s136_7, s136_8, s136_11, s136_14, s136_15, s136_18, s136_21, s136_22, s136_23, s136_25, s136_26, s136_27, s136_30, s136_33, s136_35, s136_36, s136_37, s136_41, s136_42, s136_45, s136_48, s136_49, s136_52, s136_54, s136_55, s136_58, s136_59, s136_60, s136_62, s136_65, s136_66, s136_67, s136_68, s136_71, s136_73, s136_74, s136_77, s136_78, s136_79, s136_81, s136_84, s136_85, s136_86, s136_87, s136_90, s136_92, s136_93, s136_95, s136_98, s136_99, s136_102, s136_104, s136_105, s136_106, s136_109, s136_111, s136_112, s136_113, s136_116, s136_117, s136_120, s136_122, s136_123, s136_124, s136_127, s136_129, s136_130, s136_131, s136_134, s136_135, s136_138, s136_141, s136_143, s136_144, s136_147, s136_148, s136_151, s136_152, s136_153, s136_156, mis, mg1, mg2, mg3, mg4, mg5, mg6, mg7, mg8, mg9, mg10, mg11, mg12, mg13, mg14, mg15, mg16, mg17, mg18, mg19, mg20, mg21, mg22, ms1, ms2, ms3, ms4, ms5, ms6, ms7, ms8, ms9, ms10, ms11, ms12, ms13, ms14, ms15, ms16, ms17, ms18, ms19, ms20, ms21, ms22, mf0, mf1, mf2, mf3, mf4, mf5, mf6, mf7, mf8, mf9, mf10, mf11, mf12, mf13, mf14, mf15, mf16, mf17, mf18, mf19, mf20, mf21, mf22, mf23, mf24, mf25, mf26, mp4, mp7, mp22, mp25, mp26, mq_0, al_I, as_I, zl_Z, zs_0, zs_1, Nat.reduceAdd, Nat.reduceLeDiff, Nat.zero_le, cat_0, cat_i, cat_r, opt_n, opt_s, true_and, nI_add, pk_mul, ua_ua, ua_s, ua_n, not_false_eq_true, Nat.reduceEqDiff, r_isS, if_neg hx, i10, i10n, not_true_eq_false, if_false, if_true]
    exact hX
theorem r_both {x y z w : Int32} (h1 : 1 ≤ v) (h2 : v ≤ 5) (hp : 2 ≤ p) (hp2 : p ≤ 101) (hlo : lo < p) (hT : mTab v A) (hS : mSt v p lo S (A 1)) (hSl : ∀ s, s < 5 → ∀ d, S s d < p) (hx : isW 0 4 x) (hy : isW 0 4 y) (hz : isW 0 4 z) (hw : isW 0 2 w) (hX : ∀ B, mKeep (ua A 1 (B 1)) B → mSt v p lo (setS S (ix x) (tC v) (bothW v p lo (S (ix y)) (S (ix z)) w)) (B 1) → X (some (.int (nI (cntP (bothW v p lo (S (ix y)) (S (ix z)) w) (tC v))))) (mdl M B g)) : ex_W 136 0 [.ref M, .int x, .int y, .int z, .int w, oU] [] (mdl M A g) X := by
  have hC := tC_le h1 h2
  obtain ⟨_, x2, x3⟩ := isW_e (by decide) (by decide) hx
  obtain ⟨_, y2, y3⟩ := isW_e (by decide) (by decide) hy
  obtain ⟨_, z2, z3⟩ := isW_e (by decide) (by decide) hz
  obtain ⟨_, w2, w3⟩ := isW_e (by decide) (by decide) hw
  simp only [s136_0, s136_1, s136_4, s136_7, s136_8, s136_11, s136_14, s136_15, s136_18, s136_21, s136_22, s136_23, s136_25, s136_26, s136_27, s136_30, s136_33, s136_35, s136_36, s136_37, s136_41, s136_42, s136_45, s136_48, s136_49, s136_52, s136_54, s136_55, s136_58, s136_59, s136_60, s136_62, s136_65, s136_66, s136_67, s136_68, s136_71, s136_73, s136_74, s136_77, s136_78, s136_79, s136_81, s136_84, s136_85, s136_86, s136_87, s136_90, s136_92, s136_93, s136_95, s136_98, s136_99, s136_102, s136_104, s136_105, s136_106, s136_109, s136_111, s136_112, s136_113, s136_116, s136_117, s136_120, s136_122, s136_123, s136_124, s136_127, s136_129, s136_130, s136_131, s136_134, s136_135, s136_138, s136_141, s136_143, s136_144, s136_147, s136_148, s136_151, s136_152, s136_153, s136_156, mis, mg1, mg2, mg3, mg4, mg5, mg6, mg7, mg8, mg9, mg10, mg11, mg12, mg13, mg14, mg15, mg16, mg17, mg18, mg19, mg20, mg21, mg22, ms1, ms2, ms3, ms4, ms5, ms6, ms7, ms8, ms9, ms10, ms11, ms12, ms13, ms14, ms15, ms16, ms17, ms18, ms19, ms20, ms21, ms22, mf0, mf1, mf2, mf3, mf4, mf5, mf6, mf7, mf8, mf9, mf10, mf11, mf12, mf13, mf14, mf15, mf16, mf17, mf18, mf19, mf20, mf21, mf22, mf23, mf24, mf25, mf26, mp4, mp7, mp22, mp25, mp26, mq_0, al_I, as_I, zl_Z, zs_0, zs_1, Nat.reduceAdd, Nat.reduceLeDiff, Nat.zero_le, cat_0, cat_i, cat_r, opt_n, opt_s, true_and, nI_add, pk_mul, ua_ua, ua_s, ua_n, not_false_eq_true, Nat.reduceEqDiff, r_isS, r_inW, if_pos hx, if_pos hy, if_pos hz, if_pos hw, i10, i10n, not_true_eq_false, if_false, if_true]
  rw [← x3, ← y3, ← z3]
  refine l_bo h1 h2 hp hp2 hT hS hSl (by omega) (by omega) (fun B hB hd => ?_) (tC v) 0 A (by omega) mKeep.rfl' (fun d hd => by omega)
  have hl : ∀ d, bothW v p lo (S (ix y)) (S (ix z)) w d < 1000 := fun d => by
    have a1 := Nat.mod_lt (S (ix y) d + S (ix z) d) (show p > 0 by omega)
    have a2 := Nat.mod_lt (S (ix y) d + p - S (ix z) d) (show p > 0 by omega)
    have a3 := pil_lt (v := v) (p := p) (lo := lo) (d := d) (L := S (ix y)) (R := S (ix z)) (by omega)
    unfold bothW
    split
    · omega
    · split <;> omega
  simp only [s136_0, s136_1, s136_4, s136_7, s136_8, s136_11, s136_14, s136_15, s136_18, s136_21, s136_22, s136_23, s136_25, s136_26, s136_27, s136_30, s136_33, s136_35, s136_36, s136_37, s136_41, s136_42, s136_45, s136_48, s136_49, s136_52, s136_54, s136_55, s136_58, s136_59, s136_60, s136_62, s136_65, s136_66, s136_67, s136_68, s136_71, s136_73, s136_74, s136_77, s136_78, s136_79, s136_81, s136_84, s136_85, s136_86, s136_87, s136_90, s136_92, s136_93, s136_95, s136_98, s136_99, s136_102, s136_104, s136_105, s136_106, s136_109, s136_111, s136_112, s136_113, s136_116, s136_117, s136_120, s136_122, s136_123, s136_124, s136_127, s136_129, s136_130, s136_131, s136_134, s136_135, s136_138, s136_141, s136_143, s136_144, s136_147, s136_148, s136_151, s136_152, s136_153, s136_156, mis, mg1, mg2, mg3, mg4, mg5, mg6, mg7, mg8, mg9, mg10, mg11, mg12, mg13, mg14, mg15, mg16, mg17, mg18, mg19, mg20, mg21, mg22, ms1, ms2, ms3, ms4, ms5, ms6, ms7, ms8, ms9, ms10, ms11, ms12, ms13, ms14, ms15, ms16, ms17, ms18, ms19, ms20, ms21, ms22, mf0, mf1, mf2, mf3, mf4, mf5, mf6, mf7, mf8, mf9, mf10, mf11, mf12, mf13, mf14, mf15, mf16, mf17, mf18, mf19, mf20, mf21, mf22, mf23, mf24, mf25, mf26, mp4, mp7, mp22, mp25, mp26, mq_0, al_I, as_I, zl_Z, zs_0, zs_1, Nat.reduceAdd, Nat.reduceLeDiff, Nat.zero_le, cat_0, cat_i, cat_r, opt_n, opt_s, true_and, nI_add, pk_mul, ua_ua, ua_s, ua_n, not_false_eq_true, Nat.reduceEqDiff]
  by_cases hw2 : w = nI 2
  · rw [if_neg (fun q => q hw2)]
    have n0 : ¬ w = nI 0 := fun q => by rw [q] at hw2; exact absurd hw2 (by decide)
    have n1 : ¬ w = nI 1 := fun q => by rw [q] at hw2; exact absurd hw2 (by decide)
    have hS' : mSt v p lo S (B 1) := by rw [hB.one]; exact hS
    refine r_stackSums h1 h2 hp hp2 hlo (hT.keep hB) hS'.2.1 hS'.2.2.1 (fun d hd' => (hd d hd').1) (fun d hd' => (hd d hd').2.1) (hSl _ (by omega)) (hSl _ (by omega)) (fun f hf => ?_)
    simp only [s136_0, s136_1, s136_4, s136_7, s136_8, s136_11, s136_14, s136_15, s136_18, s136_21, s136_22, s136_23, s136_25, s136_26, s136_27, s136_30, s136_33, s136_35, s136_36, s136_37, s136_41, s136_42, s136_45, s136_48, s136_49, s136_52, s136_54, s136_55, s136_58, s136_59, s136_60, s136_62, s136_65, s136_66, s136_67, s136_68, s136_71, s136_73, s136_74, s136_77, s136_78, s136_79, s136_81, s136_84, s136_85, s136_86, s136_87, s136_90, s136_92, s136_93, s136_95, s136_98, s136_99, s136_102, s136_104, s136_105, s136_106, s136_109, s136_111, s136_112, s136_113, s136_116, s136_117, s136_120, s136_122, s136_123, s136_124, s136_127, s136_129, s136_130, s136_131, s136_134, s136_135, s136_138, s136_141, s136_143, s136_144, s136_147, s136_148, s136_151, s136_152, s136_153, s136_156, mis, mg1, mg2, mg3, mg4, mg5, mg6, mg7, mg8, mg9, mg10, mg11, mg12, mg13, mg14, mg15, mg16, mg17, mg18, mg19, mg20, mg21, mg22, ms1, ms2, ms3, ms4, ms5, ms6, ms7, ms8, ms9, ms10, ms11, ms12, ms13, ms14, ms15, ms16, ms17, ms18, ms19, ms20, ms21, ms22, mf0, mf1, mf2, mf3, mf4, mf5, mf6, mf7, mf8, mf9, mf10, mf11, mf12, mf13, mf14, mf15, mf16, mf17, mf18, mf19, mf20, mf21, mf22, mf23, mf24, mf25, mf26, mp4, mp7, mp22, mp25, mp26, mq_0, al_I, as_I, zl_Z, zs_0, zs_1, Nat.reduceAdd, Nat.reduceLeDiff, Nat.zero_le, cat_0, cat_i, cat_r, opt_n, opt_s, true_and, nI_add, pk_mul, ua_ua, ua_s, ua_n, not_false_eq_true, Nat.reduceEqDiff]
    refine r_giveS (W := bothW v p lo (S (ix y)) (S (ix z)) w) h1 h2 hT hS (hB.uk (by decide)) (by omega) (fun d hd' => ?_) hl (fun D hD hD2 => ?_)
    · rw [ua_s, hf d hd']
      unfold bothW
      rw [if_neg n0, if_neg n1]
    · simp only [s136_0, s136_1, s136_4, s136_7, s136_8, s136_11, s136_14, s136_15, s136_18, s136_21, s136_22, s136_23, s136_25, s136_26, s136_27, s136_30, s136_33, s136_35, s136_36, s136_37, s136_41, s136_42, s136_45, s136_48, s136_49, s136_52, s136_54, s136_55, s136_58, s136_59, s136_60, s136_62, s136_65, s136_66, s136_67, s136_68, s136_71, s136_73, s136_74, s136_77, s136_78, s136_79, s136_81, s136_84, s136_85, s136_86, s136_87, s136_90, s136_92, s136_93, s136_95, s136_98, s136_99, s136_102, s136_104, s136_105, s136_106, s136_109, s136_111, s136_112, s136_113, s136_116, s136_117, s136_120, s136_122, s136_123, s136_124, s136_127, s136_129, s136_130, s136_131, s136_134, s136_135, s136_138, s136_141, s136_143, s136_144, s136_147, s136_148, s136_151, s136_152, s136_153, s136_156, mis, mg1, mg2, mg3, mg4, mg5, mg6, mg7, mg8, mg9, mg10, mg11, mg12, mg13, mg14, mg15, mg16, mg17, mg18, mg19, mg20, mg21, mg22, ms1, ms2, ms3, ms4, ms5, ms6, ms7, ms8, ms9, ms10, ms11, ms12, ms13, ms14, ms15, ms16, ms17, ms18, ms19, ms20, ms21, ms22, mf0, mf1, mf2, mf3, mf4, mf5, mf6, mf7, mf8, mf9, mf10, mf11, mf12, mf13, mf14, mf15, mf16, mf17, mf18, mf19, mf20, mf21, mf22, mf23, mf24, mf25, mf26, mp4, mp7, mp22, mp25, mp26, mq_0, al_I, as_I, zl_Z, zs_0, zs_1, Nat.reduceAdd, Nat.reduceLeDiff, Nat.zero_le, cat_0, cat_i, cat_r, opt_n, opt_s, true_and, nI_add, pk_mul, ua_ua, ua_s, ua_n, not_false_eq_true, Nat.reduceEqDiff]
      exact hX D hD hD2
  · rw [if_pos hw2]
    refine r_giveS (W := bothW v p lo (S (ix y)) (S (ix z)) w) h1 h2 hT hS hB (by omega) (fun d hd' => ?_) hl (fun D hD hD2 => ?_)
    · rw [(hd d hd').2.2]
      unfold bothW
      by_cases n0 : w = nI 0
      · rw [if_pos n0, if_pos n0]
      · have n1 : w = nI 1 := by
          have : ix w = 1 := by
            have a : ¬ ix w = 0 := fun q => n0 (by rw [← w3, q])
            have b : ¬ ix w = 2 := fun q => hw2 (by rw [← w3, q])
            omega
          rw [← w3, this]
        rw [if_neg n0, if_neg n0, if_pos n1]
    · simp only [s136_0, s136_1, s136_4, s136_7, s136_8, s136_11, s136_14, s136_15, s136_18, s136_21, s136_22, s136_23, s136_25, s136_26, s136_27, s136_30, s136_33, s136_35, s136_36, s136_37, s136_41, s136_42, s136_45, s136_48, s136_49, s136_52, s136_54, s136_55, s136_58, s136_59, s136_60, s136_62, s136_65, s136_66, s136_67, s136_68, s136_71, s136_73, s136_74, s136_77, s136_78, s136_79, s136_81, s136_84, s136_85, s136_86, s136_87, s136_90, s136_92, s136_93, s136_95, s136_98, s136_99, s136_102, s136_104, s136_105, s136_106, s136_109, s136_111, s136_112, s136_113, s136_116, s136_117, s136_120, s136_122, s136_123, s136_124, s136_127, s136_129, s136_130, s136_131, s136_134, s136_135, s136_138, s136_141, s136_143, s136_144, s136_147, s136_148, s136_151, s136_152, s136_153, s136_156, mis, mg1, mg2, mg3, mg4, mg5, mg6, mg7, mg8, mg9, mg10, mg11, mg12, mg13, mg14, mg15, mg16, mg17, mg18, mg19, mg20, mg21, mg22, ms1, ms2, ms3, ms4, ms5, ms6, ms7, ms8, ms9, ms10, ms11, ms12, ms13, ms14, ms15, ms16, ms17, ms18, ms19, ms20, ms21, ms22, mf0, mf1, mf2, mf3, mf4, mf5, mf6, mf7, mf8, mf9, mf10, mf11, mf12, mf13, mf14, mf15, mf16, mf17, mf18, mf19, mf20, mf21, mf22, mf23, mf24, mf25, mf26, mp4, mp7, mp22, mp25, mp26, mq_0, al_I, as_I, zl_Z, zs_0, zs_1, Nat.reduceAdd, Nat.reduceLeDiff, Nat.zero_le, cat_0, cat_i, cat_r, opt_n, opt_s, true_and, nI_add, pk_mul, ua_ua, ua_s, ua_n, not_false_eq_true, Nat.reduceEqDiff]
      exact hX D hD hD2
def timW (p : Nat) (L : Nat → Nat) (z : Nat) : Nat → Nat := fun d => z * L d % p
theorem l_ti {o z : Nat} {A0 : Nat → Nat → Int32} {l1 : Value} (h1 : 1 ≤ v) (h2 : v ≤ 5) (hp : 2 ≤ p) (hp2 : p ≤ 101) (hz : z < p) (hT : mTab v A0) (hS : mSt v p lo S (A0 1)) (hSl : ∀ s, s < 5 → ∀ d, S s d < p) (ho : o < 5) (hX : ∀ f : Nat → Int32, (∀ d, d < tC v → f d = nI (timW p (S o) z d)) → ex_W 137 70 [.ref M, l1, .int (nI o), .int (nI z), .int (nI (tC v))] [] (mdl M (ua A0 16 f) g) X) : ∀ (n t : Nat) (f : Nat → Int32), n + t = tC v → (∀ d, d < t → f d = nI (timW p (S o) z d)) → ex_W 137 30 [.ref M, l1, .int (nI o), .int (nI z), .int (nI t)] [] (mdl M (ua A0 16 f) g) X := by
  have hC := tC_le h1 h2
  intro n
  induction n with
  | zero =>
    intro t f hn hd
    obtain rfl : t = tC v := by omega
    rw [s137_30]
    simp only [s137_0, s137_1, s137_4, s137_7, s137_8, s137_11, s137_14, s137_15, s137_16, s137_17, s137_18, s137_21, s137_24, s137_26, s137_27, s137_28, s137_32, s137_33, s137_36, s137_39, s137_40, s137_43, s137_45, s137_46, s137_47, s137_48, s137_51, s137_52, s137_53, s137_55, s137_58, s137_59, s137_60, s137_63, s137_64, s137_67, s137_71, s137_72, s137_75, mis, mg1, mg2, mg3, mg4, mg5, mg6, mg7, mg8, mg9, mg10, mg11, mg12, mg13, mg14, mg15, mg16, mg17, mg18, mg19, mg20, mg21, mg22, ms1, ms2, ms3, ms4, ms5, ms6, ms7, ms8, ms9, ms10, ms11, ms12, ms13, ms14, ms15, ms16, ms17, ms18, ms19, ms20, ms21, ms22, mf0, mf1, mf2, mf3, mf4, mf5, mf6, mf7, mf8, mf9, mf10, mf11, mf12, mf13, mf14, mf15, mf16, mf17, mf18, mf19, mf20, mf21, mf22, mf23, mf24, mf25, mf26, mp4, mp7, mp22, mp25, mp26, mq_0, al_I, as_I, zl_Z, zs_0, zs_1, Nat.reduceAdd, Nat.reduceLeDiff, Nat.zero_le, cat_0, cat_i, cat_r, opt_n, opt_s, true_and, nI_add, pk_mul, ua_ua, ua_s, ua_n, not_false_eq_true, Nat.reduceEqDiff, hT.1]
    rw [if_pos ((nI_l1 (by omega) (by omega)).mpr (by omega))]
    exact hX f hd
  | succ n ih =>
    intro t f hn hd
    have e1 := hS.2.2.2 o ho t (by omega)
    have q1 := hSl o ho t
    have b1 : z * S o t < 2147483648 := by
      have : z * S o t ≤ 101 * 101 := Nat.mul_le_mul (by omega) (by omega)
      omega
    have hp1 : (ua A0 16 f) 1 1 = nI p := by rw [ua_n (by decide)]; exact hS.2.1
    rw [s137_30]
    simp only [s137_0, s137_1, s137_4, s137_7, s137_8, s137_11, s137_14, s137_15, s137_16, s137_17, s137_18, s137_21, s137_24, s137_26, s137_27, s137_28, s137_32, s137_33, s137_36, s137_39, s137_40, s137_43, s137_45, s137_46, s137_47, s137_48, s137_51, s137_52, s137_53, s137_55, s137_58, s137_59, s137_60, s137_63, s137_64, s137_67, s137_71, s137_72, s137_75, mis, mg1, mg2, mg3, mg4, mg5, mg6, mg7, mg8, mg9, mg10, mg11, mg12, mg13, mg14, mg15, mg16, mg17, mg18, mg19, mg20, mg21, mg22, ms1, ms2, ms3, ms4, ms5, ms6, ms7, ms8, ms9, ms10, ms11, ms12, ms13, ms14, ms15, ms16, ms17, ms18, ms19, ms20, ms21, ms22, mf0, mf1, mf2, mf3, mf4, mf5, mf6, mf7, mf8, mf9, mf10, mf11, mf12, mf13, mf14, mf15, mf16, mf17, mf18, mf19, mf20, mf21, mf22, mf23, mf24, mf25, mf26, mp4, mp7, mp22, mp25, mp26, mq_0, al_I, as_I, zl_Z, zs_0, zs_1, Nat.reduceAdd, Nat.reduceLeDiff, Nat.zero_le, cat_0, cat_i, cat_r, opt_n, opt_s, true_and, nI_add, pk_mul, ua_ua, ua_s, ua_n, not_false_eq_true, Nat.reduceEqDiff, hT.1, r_place, xi_n (show 3 + 42 * o + t < 213 by omega) (show 213 < 2147483648 by decide), xi_n (show t < 42 by omega) (show 42 < 2147483648 by decide), e1, r_by hp hp2 hp1, nF_n hp (show p < 32768 by omega) b1]
    rw [if_neg (fun z => absurd ((nI_l1 (by omega) (by omega)).mp z) (by omega))]
    refine ih (t + 1) _ (by omega) (fun e he => ?_)
    by_cases hc : e = t
    · rw [hc, pk_us]; rfl
    · rw [pk_un hc]
      exact hd e (by omega)
theorem r_times_no {x y z : Int32} (hp : 1 ≤ p) (hp1 : A 1 1 = nI p) (hc : ¬ ((isW 0 4 x ∧ isW 0 4 y) ∧ isW 0 (p - 1) z)) (hX : X (some (.int (if isW 0 4 x ∧ isW 0 4 y then -2 else -1))) (mdl M A g)) : ex_W 137 0 [.ref M, .int x, .int y, .int z, oU] [] (mdl M A g) X := by
  by_cases hx : isW 0 4 x
  · by_cases hy : isW 0 4 y
    · have hz : ¬ isW 0 (p - 1) z := fun q => hc ⟨⟨hx, hy⟩, q⟩
      rw [if_pos ⟨hx, hy⟩] at hX
      simp only [s137_0, s137_1, s137_4, s137_7, s137_8, s137_11, s137_14, s137_15, s137_16, s137_17, s137_18, s137_21, s137_24, s137_26, s137_27, s137_28, s137_32, s137_33, s137_36, s137_39, s137_40, s137_43, s137_45, s137_46, s137_47, s137_48, s137_51, s137_52, s137_53, s137_55, s137_58, s137_59, s137_60, s137_63, s137_64, s137_67, s137_70, s137_71, s137_72, s137_75, mis, mg1, mg2, mg3, mg4, mg5, mg6, mg7, mg8, mg9, mg10, mg11, mg12, mg13, mg14, mg15, mg16, mg17, mg18, mg19, mg20, mg21, mg22, ms1, ms2, ms3, ms4, ms5, ms6, ms7, ms8, ms9, ms10, ms11, ms12, ms13, ms14, ms15, ms16, ms17, ms18, ms19, ms20, ms21, ms22, mf0, mf1, mf2, mf3, mf4, mf5, mf6, mf7, mf8, mf9, mf10, mf11, mf12, mf13, mf14, mf15, mf16, mf17, mf18, mf19, mf20, mf21, mf22, mf23, mf24, mf25, mf26, mp4, mp7, mp22, mp25, mp26, mq_0, al_I, as_I, zl_Z, zs_0, zs_1, Nat.reduceAdd, Nat.reduceLeDiff, Nat.zero_le, cat_0, cat_i, cat_r, opt_n, opt_s, true_and, nI_add, pk_mul, ua_ua, ua_s, ua_n, not_false_eq_true, Nat.reduceEqDiff, r_isS, r_isNumber hp hp1, if_pos hx, if_pos hy, if_neg hz, i10, i10n, not_true_eq_false, if_false, if_true]
      exact hX
    · rw [if_neg (fun q => hy q.2)] at hX
      simp only [s137_0, s137_1, s137_4, s137_7, s137_8, s137_11, s137_14, s137_15, s137_16, s137_17, s137_18, s137_21, s137_24, s137_26, s137_27, s137_28, s137_32, s137_33, s137_36, s137_39, s137_40, s137_43, s137_45, s137_46, s137_47, s137_48, s137_51, s137_52, s137_53, s137_55, s137_58, s137_59, s137_60, s137_63, s137_64, s137_67, s137_70, s137_71, s137_72, s137_75, mis, mg1, mg2, mg3, mg4, mg5, mg6, mg7, mg8, mg9, mg10, mg11, mg12, mg13, mg14, mg15, mg16, mg17, mg18, mg19, mg20, mg21, mg22, ms1, ms2, ms3, ms4, ms5, ms6, ms7, ms8, ms9, ms10, ms11, ms12, ms13, ms14, ms15, ms16, ms17, ms18, ms19, ms20, ms21, ms22, mf0, mf1, mf2, mf3, mf4, mf5, mf6, mf7, mf8, mf9, mf10, mf11, mf12, mf13, mf14, mf15, mf16, mf17, mf18, mf19, mf20, mf21, mf22, mf23, mf24, mf25, mf26, mp4, mp7, mp22, mp25, mp26, mq_0, al_I, as_I, zl_Z, zs_0, zs_1, Nat.reduceAdd, Nat.reduceLeDiff, Nat.zero_le, cat_0, cat_i, cat_r, opt_n, opt_s, true_and, nI_add, pk_mul, ua_ua, ua_s, ua_n, not_false_eq_true, Nat.reduceEqDiff, r_isS, if_pos hx, if_neg hy, i10, i10n, not_true_eq_false, if_false, if_true]
      exact hX
  · rw [if_neg (fun q => hx q.1)] at hX
    simp only [s137_0, s137_1, s137_4, s137_7, s137_8, s137_11, s137_14, s137_15, s137_16, s137_17, s137_18, s137_21, s137_24, s137_26, s137_27, s137_28, s137_32, s137_33, s137_36, s137_39, s137_40, s137_43, s137_45, s137_46, s137_47, s137_48, s137_51, s137_52, s137_53, s137_55, s137_58, s137_59, s137_60, s137_63, s137_64, s137_67, s137_70, s137_71, s137_72, s137_75, mis, mg1, mg2, mg3, mg4, mg5, mg6, mg7, mg8, mg9, mg10, mg11, mg12, mg13, mg14, mg15, mg16, mg17, mg18, mg19, mg20, mg21, mg22, ms1, ms2, ms3, ms4, ms5, ms6, ms7, ms8, ms9, ms10, ms11, ms12, ms13, ms14, ms15, ms16, ms17, ms18, ms19, ms20, ms21, ms22, mf0, mf1, mf2, mf3, mf4, mf5, mf6, mf7, mf8, mf9, mf10, mf11, mf12, mf13, mf14, mf15, mf16, mf17, mf18, mf19, mf20, mf21, mf22, mf23, mf24, mf25, mf26, mp4, mp7, mp22, mp25, mp26, mq_0, al_I, as_I, zl_Z, zs_0, zs_1, Nat.reduceAdd, Nat.reduceLeDiff, Nat.zero_le, cat_0, cat_i, cat_r, opt_n, opt_s, true_and, nI_add, pk_mul, ua_ua, ua_s, ua_n, not_false_eq_true, Nat.reduceEqDiff, r_isS, if_neg hx, i10, i10n, not_true_eq_false, if_false, if_true]
    exact hX
theorem r_times {x y z : Int32} (h1 : 1 ≤ v) (h2 : v ≤ 5) (hp : 2 ≤ p) (hp2 : p ≤ 101) (hT : mTab v A) (hS : mSt v p lo S (A 1)) (hSl : ∀ s, s < 5 → ∀ d, S s d < p) (hx : isW 0 4 x) (hy : isW 0 4 y) (hz : isW 0 (p - 1) z) (hX : ∀ B, mKeep (ua A 1 (B 1)) B → mSt v p lo (setS S (ix x) (tC v) (timW p (S (ix y)) (ix z))) (B 1) → X (some (.int (nI (cntP (timW p (S (ix y)) (ix z)) (tC v))))) (mdl M B g)) : ex_W 137 0 [.ref M, .int x, .int y, .int z, oU] [] (mdl M A g) X := by
  have hC := tC_le h1 h2
  obtain ⟨_, x2, x3⟩ := isW_e (by decide) (by decide) hx
  obtain ⟨_, y2, y3⟩ := isW_e (by decide) (by decide) hy
  obtain ⟨_, z2, z3⟩ := isW_e (by decide) (by omega) hz
  simp only [s137_0, s137_1, s137_4, s137_7, s137_8, s137_11, s137_14, s137_15, s137_16, s137_17, s137_18, s137_21, s137_24, s137_26, s137_27, s137_28, s137_32, s137_33, s137_36, s137_39, s137_40, s137_43, s137_45, s137_46, s137_47, s137_48, s137_51, s137_52, s137_53, s137_55, s137_58, s137_59, s137_60, s137_63, s137_64, s137_67, s137_70, s137_71, s137_72, s137_75, mis, mg1, mg2, mg3, mg4, mg5, mg6, mg7, mg8, mg9, mg10, mg11, mg12, mg13, mg14, mg15, mg16, mg17, mg18, mg19, mg20, mg21, mg22, ms1, ms2, ms3, ms4, ms5, ms6, ms7, ms8, ms9, ms10, ms11, ms12, ms13, ms14, ms15, ms16, ms17, ms18, ms19, ms20, ms21, ms22, mf0, mf1, mf2, mf3, mf4, mf5, mf6, mf7, mf8, mf9, mf10, mf11, mf12, mf13, mf14, mf15, mf16, mf17, mf18, mf19, mf20, mf21, mf22, mf23, mf24, mf25, mf26, mp4, mp7, mp22, mp25, mp26, mq_0, al_I, as_I, zl_Z, zs_0, zs_1, Nat.reduceAdd, Nat.reduceLeDiff, Nat.zero_le, cat_0, cat_i, cat_r, opt_n, opt_s, true_and, nI_add, pk_mul, ua_ua, ua_s, ua_n, not_false_eq_true, Nat.reduceEqDiff, r_isS, r_isNumber (show 1 ≤ p by omega) hS.2.1, if_pos hx, if_pos hy, if_pos hz, i10, i10n, not_true_eq_false, if_false, if_true]
  rw [← x3, ← y3, ← z3]
  have := l_ti (M := M) (g := g) (X := X) (l1 := .int (nI (ix x))) h1 h2 hp hp2 (show ix z < p by omega) hT hS hSl (show ix y < 5 by omega) (fun f hf => ?_) (tC v) 0 (A 16) (by omega) (fun d hd => by omega)
  · rw [ua_id] at this
    exact this
  simp only [s137_0, s137_1, s137_4, s137_7, s137_8, s137_11, s137_14, s137_15, s137_16, s137_17, s137_18, s137_21, s137_24, s137_26, s137_27, s137_28, s137_32, s137_33, s137_36, s137_39, s137_40, s137_43, s137_45, s137_46, s137_47, s137_48, s137_51, s137_52, s137_53, s137_55, s137_58, s137_59, s137_60, s137_63, s137_64, s137_67, s137_70, s137_71, s137_72, s137_75, mis, mg1, mg2, mg3, mg4, mg5, mg6, mg7, mg8, mg9, mg10, mg11, mg12, mg13, mg14, mg15, mg16, mg17, mg18, mg19, mg20, mg21, mg22, ms1, ms2, ms3, ms4, ms5, ms6, ms7, ms8, ms9, ms10, ms11, ms12, ms13, ms14, ms15, ms16, ms17, ms18, ms19, ms20, ms21, ms22, mf0, mf1, mf2, mf3, mf4, mf5, mf6, mf7, mf8, mf9, mf10, mf11, mf12, mf13, mf14, mf15, mf16, mf17, mf18, mf19, mf20, mf21, mf22, mf23, mf24, mf25, mf26, mp4, mp7, mp22, mp25, mp26, mq_0, al_I, as_I, zl_Z, zs_0, zs_1, Nat.reduceAdd, Nat.reduceLeDiff, Nat.zero_le, cat_0, cat_i, cat_r, opt_n, opt_s, true_and, nI_add, pk_mul, ua_ua, ua_s, ua_n, not_false_eq_true, Nat.reduceEqDiff]
  refine r_giveS (W := timW p (S (ix y)) (ix z)) h1 h2 hT hS (mKeep.rfl'.uk (by decide)) (by omega) (fun d hd' => ?_) (fun d => ?_) (fun D hD hD2 => ?_)
  · rw [ua_s]; exact hf d hd'
  · have := Nat.mod_lt (ix z * S (ix y) d) (show p > 0 by omega)
    unfold timW
    omega
  · simp only [s137_0, s137_1, s137_4, s137_7, s137_8, s137_11, s137_14, s137_15, s137_16, s137_17, s137_18, s137_21, s137_24, s137_26, s137_27, s137_28, s137_32, s137_33, s137_36, s137_39, s137_40, s137_43, s137_45, s137_46, s137_47, s137_48, s137_51, s137_52, s137_53, s137_55, s137_58, s137_59, s137_60, s137_63, s137_64, s137_67, s137_70, s137_71, s137_72, s137_75, mis, mg1, mg2, mg3, mg4, mg5, mg6, mg7, mg8, mg9, mg10, mg11, mg12, mg13, mg14, mg15, mg16, mg17, mg18, mg19, mg20, mg21, mg22, ms1, ms2, ms3, ms4, ms5, ms6, ms7, ms8, ms9, ms10, ms11, ms12, ms13, ms14, ms15, ms16, ms17, ms18, ms19, ms20, ms21, ms22, mf0, mf1, mf2, mf3, mf4, mf5, mf6, mf7, mf8, mf9, mf10, mf11, mf12, mf13, mf14, mf15, mf16, mf17, mf18, mf19, mf20, mf21, mf22, mf23, mf24, mf25, mf26, mp4, mp7, mp22, mp25, mp26, mq_0, al_I, as_I, zl_Z, zs_0, zs_1, Nat.reduceAdd, Nat.reduceLeDiff, Nat.zero_le, cat_0, cat_i, cat_r, opt_n, opt_s, true_and, nI_add, pk_mul, ua_ua, ua_s, ua_n, not_false_eq_true, Nat.reduceEqDiff]
    exact hX D hD hD2
theorem l_tn {o : Nat} {A0 : Nat → Nat → Int32} {l1 : Value} (h1 : 1 ≤ v) (h2 : v ≤ 5) (hT : mTab v A0) (hS : mSt v p lo S (A0 1)) (ho : o < 5) (hX : ∀ B, mKeep A0 B → (∀ d, d < tC v → B 16 d = nI (S o (tTu v d))) → ex_W 138 53 [.ref M, l1, .int (nI o), .int (nI (tC v))] [] (mdl M B g) X) : ∀ (n t : Nat) (A : Nat → Nat → Int32), n + t = tC v → mKeep A0 A → (∀ d, d < t → A 16 (tTu v d) = nI (S o d)) → ex_W 138 18 [.ref M, l1, .int (nI o), .int (nI t)] [] (mdl M A g) X := by
  have hC := tC_le h1 h2
  intro n
  induction n with
  | zero =>
    intro t A hn hA hd
    obtain rfl : t = tC v := by omega
    rw [s138_18]
    simp only [s138_0, s138_1, s138_4, s138_7, s138_8, s138_11, s138_14, s138_15, s138_16, s138_17, s138_19, s138_20, s138_23, s138_26, s138_27, s138_30, s138_31, s138_32, s138_35, s138_36, s138_39, s138_40, s138_41, s138_42, s138_45, s138_46, s138_47, s138_50, s138_54, s138_55, s138_58, mis, mg1, mg2, mg3, mg4, mg5, mg6, mg7, mg8, mg9, mg10, mg11, mg12, mg13, mg14, mg15, mg16, mg17, mg18, mg19, mg20, mg21, mg22, ms1, ms2, ms3, ms4, ms5, ms6, ms7, ms8, ms9, ms10, ms11, ms12, ms13, ms14, ms15, ms16, ms17, ms18, ms19, ms20, ms21, ms22, mf0, mf1, mf2, mf3, mf4, mf5, mf6, mf7, mf8, mf9, mf10, mf11, mf12, mf13, mf14, mf15, mf16, mf17, mf18, mf19, mf20, mf21, mf22, mf23, mf24, mf25, mf26, mp4, mp7, mp22, mp25, mp26, mq_0, al_I, as_I, zl_Z, zs_0, zs_1, Nat.reduceAdd, Nat.reduceLeDiff, Nat.zero_le, cat_0, cat_i, cat_r, opt_n, opt_s, true_and, nI_add, pk_mul, ua_ua, ua_s, ua_n, not_false_eq_true, Nat.reduceEqDiff, (hT.keep hA).1]
    rw [if_pos ((nI_l1 (by omega) (by omega)).mpr (by omega))]
    refine hX A hA (fun d hd' => ?_)
    have := hd _ (tTu_lt h1 h2 hd').1
    rw [tTt h1 h2 hd'] at this
    exact this
  | succ n ih =>
    intro t A hn hA hd
    have ht : t < tC v := by omega
    have hS' : mSt v p lo S (A 1) := by rw [hA.one]; exact hS
    have e1 := hS'.2.2.2 o ho t (by omega)
    have htu := (tTu_lt h1 h2 ht).1
    rw [s138_18]
    simp only [s138_0, s138_1, s138_4, s138_7, s138_8, s138_11, s138_14, s138_15, s138_16, s138_17, s138_19, s138_20, s138_23, s138_26, s138_27, s138_30, s138_31, s138_32, s138_35, s138_36, s138_39, s138_40, s138_41, s138_42, s138_45, s138_46, s138_47, s138_50, s138_54, s138_55, s138_58, mis, mg1, mg2, mg3, mg4, mg5, mg6, mg7, mg8, mg9, mg10, mg11, mg12, mg13, mg14, mg15, mg16, mg17, mg18, mg19, mg20, mg21, mg22, ms1, ms2, ms3, ms4, ms5, ms6, ms7, ms8, ms9, ms10, ms11, ms12, ms13, ms14, ms15, ms16, ms17, ms18, ms19, ms20, ms21, ms22, mf0, mf1, mf2, mf3, mf4, mf5, mf6, mf7, mf8, mf9, mf10, mf11, mf12, mf13, mf14, mf15, mf16, mf17, mf18, mf19, mf20, mf21, mf22, mf23, mf24, mf25, mf26, mp4, mp7, mp22, mp25, mp26, mq_0, al_I, as_I, zl_Z, zs_0, zs_1, Nat.reduceAdd, Nat.reduceLeDiff, Nat.zero_le, cat_0, cat_i, cat_r, opt_n, opt_s, true_and, nI_add, pk_mul, ua_ua, ua_s, ua_n, not_false_eq_true, Nat.reduceEqDiff, (hT.keep hA).1]
    rw [if_neg (fun z => absurd ((nI_l1 (by omega) (by omega)).mp z) (by omega))]
    refine r_turnedOf h1 h2 ht hS'.1 (hT.keep hA) (fun f => ?_)
    simp only [s138_0, s138_1, s138_4, s138_7, s138_8, s138_11, s138_14, s138_15, s138_16, s138_17, s138_19, s138_20, s138_23, s138_26, s138_27, s138_30, s138_31, s138_32, s138_35, s138_36, s138_39, s138_40, s138_41, s138_42, s138_45, s138_46, s138_47, s138_50, s138_54, s138_55, s138_58, mis, mg1, mg2, mg3, mg4, mg5, mg6, mg7, mg8, mg9, mg10, mg11, mg12, mg13, mg14, mg15, mg16, mg17, mg18, mg19, mg20, mg21, mg22, ms1, ms2, ms3, ms4, ms5, ms6, ms7, ms8, ms9, ms10, ms11, ms12, ms13, ms14, ms15, ms16, ms17, ms18, ms19, ms20, ms21, ms22, mf0, mf1, mf2, mf3, mf4, mf5, mf6, mf7, mf8, mf9, mf10, mf11, mf12, mf13, mf14, mf15, mf16, mf17, mf18, mf19, mf20, mf21, mf22, mf23, mf24, mf25, mf26, mp4, mp7, mp22, mp25, mp26, mq_0, al_I, as_I, zl_Z, zs_0, zs_1, Nat.reduceAdd, Nat.reduceLeDiff, Nat.zero_le, cat_0, cat_i, cat_r, opt_n, opt_s, true_and, nI_add, pk_mul, ua_ua, ua_s, ua_n, not_false_eq_true, Nat.reduceEqDiff, r_place, xi_n (show 3 + 42 * o + t < 213 by omega) (show 213 < 2147483648 by decide), xi_n (show tTu v t < 42 by omega) (show 42 < 2147483648 by decide), e1]
    refine ih (t + 1) _ (by omega) ((hA.uk (by decide)).uk (by decide)) (fun e he => ?_)
    rw [ua_s]
    by_cases hc : e = t
    · rw [hc, pk_us]
    · rw [pk_un (fun z => hc (by
        have := congrArg (tTu v) z
        rw [tTt h1 h2 (show e < tC v by omega), tTt h1 h2 ht] at this
        exact this))]
      exact hd e (by omega)
theorem r_turn_no {x y : Int32} (hc : ¬ (isW 0 4 x ∧ isW 0 4 y)) (hX : X (some (.int (-1))) (mdl M A g)) : ex_W 138 0 [.ref M, .int x, .int y, oU] [] (mdl M A g) X := by
  by_cases hx : isW 0 4 x
  · have hy : ¬ isW 0 4 y := fun q => hc ⟨hx, q⟩
    simp only [s138_0, s138_1, s138_4, s138_7, s138_8, s138_11, s138_14, s138_15, s138_16, s138_17, s138_19, s138_20, s138_23, s138_26, s138_27, s138_30, s138_31, s138_32, s138_35, s138_36, s138_39, s138_40, s138_41, s138_42, s138_45, s138_46, s138_47, s138_50, s138_53, s138_54, s138_55, s138_58, mis, mg1, mg2, mg3, mg4, mg5, mg6, mg7, mg8, mg9, mg10, mg11, mg12, mg13, mg14, mg15, mg16, mg17, mg18, mg19, mg20, mg21, mg22, ms1, ms2, ms3, ms4, ms5, ms6, ms7, ms8, ms9, ms10, ms11, ms12, ms13, ms14, ms15, ms16, ms17, ms18, ms19, ms20, ms21, ms22, mf0, mf1, mf2, mf3, mf4, mf5, mf6, mf7, mf8, mf9, mf10, mf11, mf12, mf13, mf14, mf15, mf16, mf17, mf18, mf19, mf20, mf21, mf22, mf23, mf24, mf25, mf26, mp4, mp7, mp22, mp25, mp26, mq_0, al_I, as_I, zl_Z, zs_0, zs_1, Nat.reduceAdd, Nat.reduceLeDiff, Nat.zero_le, cat_0, cat_i, cat_r, opt_n, opt_s, true_and, nI_add, pk_mul, ua_ua, ua_s, ua_n, not_false_eq_true, Nat.reduceEqDiff, r_isS, if_pos hx, if_neg hy, i10, i10n, not_true_eq_false, if_false, if_true]
    exact hX
  · simp only [s138_0, s138_1, s138_4, s138_7, s138_8, s138_11, s138_14, s138_15, s138_16, s138_17, s138_19, s138_20, s138_23, s138_26, s138_27, s138_30, s138_31, s138_32, s138_35, s138_36, s138_39, s138_40, s138_41, s138_42, s138_45, s138_46, s138_47, s138_50, s138_53, s138_54, s138_55, s138_58, mis, mg1, mg2, mg3, mg4, mg5, mg6, mg7, mg8, mg9, mg10, mg11, mg12, mg13, mg14, mg15, mg16, mg17, mg18, mg19, mg20, mg21, mg22, ms1, ms2, ms3, ms4, ms5, ms6, ms7, ms8, ms9, ms10, ms11, ms12, ms13, ms14, ms15, ms16, ms17, ms18, ms19, ms20, ms21, ms22, mf0, mf1, mf2, mf3, mf4, mf5, mf6, mf7, mf8, mf9, mf10, mf11, mf12, mf13, mf14, mf15, mf16, mf17, mf18, mf19, mf20, mf21, mf22, mf23, mf24, mf25, mf26, mp4, mp7, mp22, mp25, mp26, mq_0, al_I, as_I, zl_Z, zs_0, zs_1, Nat.reduceAdd, Nat.reduceLeDiff, Nat.zero_le, cat_0, cat_i, cat_r, opt_n, opt_s, true_and, nI_add, pk_mul, ua_ua, ua_s, ua_n, not_false_eq_true, Nat.reduceEqDiff, r_isS, if_neg hx, i10, i10n, not_true_eq_false, if_false, if_true]
    exact hX
theorem r_turn {x y : Int32} (h1 : 1 ≤ v) (h2 : v ≤ 5) (hp2 : p ≤ 101) (hT : mTab v A) (hS : mSt v p lo S (A 1)) (hSl : ∀ s, s < 5 → ∀ d, S s d < p) (hx : isW 0 4 x) (hy : isW 0 4 y) (hX : ∀ B, mKeep (ua A 1 (B 1)) B → mSt v p lo (setS S (ix x) (tC v) (fun d => S (ix y) (tTu v d))) (B 1) → X (some (.int (nI (cntP (fun d => S (ix y) (tTu v d)) (tC v))))) (mdl M B g)) : ex_W 138 0 [.ref M, .int x, .int y, oU] [] (mdl M A g) X := by
  have hC := tC_le h1 h2
  obtain ⟨_, x2, x3⟩ := isW_e (by decide) (by decide) hx
  obtain ⟨_, y2, y3⟩ := isW_e (by decide) (by decide) hy
  simp only [s138_0, s138_1, s138_4, s138_7, s138_8, s138_11, s138_14, s138_15, s138_16, s138_17, s138_19, s138_20, s138_23, s138_26, s138_27, s138_30, s138_31, s138_32, s138_35, s138_36, s138_39, s138_40, s138_41, s138_42, s138_45, s138_46, s138_47, s138_50, s138_53, s138_54, s138_55, s138_58, mis, mg1, mg2, mg3, mg4, mg5, mg6, mg7, mg8, mg9, mg10, mg11, mg12, mg13, mg14, mg15, mg16, mg17, mg18, mg19, mg20, mg21, mg22, ms1, ms2, ms3, ms4, ms5, ms6, ms7, ms8, ms9, ms10, ms11, ms12, ms13, ms14, ms15, ms16, ms17, ms18, ms19, ms20, ms21, ms22, mf0, mf1, mf2, mf3, mf4, mf5, mf6, mf7, mf8, mf9, mf10, mf11, mf12, mf13, mf14, mf15, mf16, mf17, mf18, mf19, mf20, mf21, mf22, mf23, mf24, mf25, mf26, mp4, mp7, mp22, mp25, mp26, mq_0, al_I, as_I, zl_Z, zs_0, zs_1, Nat.reduceAdd, Nat.reduceLeDiff, Nat.zero_le, cat_0, cat_i, cat_r, opt_n, opt_s, true_and, nI_add, pk_mul, ua_ua, ua_s, ua_n, not_false_eq_true, Nat.reduceEqDiff, r_isS, if_pos hx, if_pos hy, i10, i10n, not_true_eq_false, if_false, if_true]
  rw [← x3, ← y3]
  refine l_tn h1 h2 hT hS (by omega) (fun B hB hd => ?_) (tC v) 0 A (by omega) mKeep.rfl' (fun d hd => by omega)
  simp only [s138_0, s138_1, s138_4, s138_7, s138_8, s138_11, s138_14, s138_15, s138_16, s138_17, s138_19, s138_20, s138_23, s138_26, s138_27, s138_30, s138_31, s138_32, s138_35, s138_36, s138_39, s138_40, s138_41, s138_42, s138_45, s138_46, s138_47, s138_50, s138_53, s138_54, s138_55, s138_58, mis, mg1, mg2, mg3, mg4, mg5, mg6, mg7, mg8, mg9, mg10, mg11, mg12, mg13, mg14, mg15, mg16, mg17, mg18, mg19, mg20, mg21, mg22, ms1, ms2, ms3, ms4, ms5, ms6, ms7, ms8, ms9, ms10, ms11, ms12, ms13, ms14, ms15, ms16, ms17, ms18, ms19, ms20, ms21, ms22, mf0, mf1, mf2, mf3, mf4, mf5, mf6, mf7, mf8, mf9, mf10, mf11, mf12, mf13, mf14, mf15, mf16, mf17, mf18, mf19, mf20, mf21, mf22, mf23, mf24, mf25, mf26, mp4, mp7, mp22, mp25, mp26, mq_0, al_I, as_I, zl_Z, zs_0, zs_1, Nat.reduceAdd, Nat.reduceLeDiff, Nat.zero_le, cat_0, cat_i, cat_r, opt_n, opt_s, true_and, nI_add, pk_mul, ua_ua, ua_s, ua_n, not_false_eq_true, Nat.reduceEqDiff]
  refine r_giveS (W := fun d => S (ix y) (tTu v d)) h1 h2 hT hS hB (by omega) hd (fun d => ?_) (fun D hD hD2 => ?_)
  · have := hSl (ix y) (by omega) (tTu v d)
    omega
  · simp only [s138_0, s138_1, s138_4, s138_7, s138_8, s138_11, s138_14, s138_15, s138_16, s138_17, s138_19, s138_20, s138_23, s138_26, s138_27, s138_30, s138_31, s138_32, s138_35, s138_36, s138_39, s138_40, s138_41, s138_42, s138_45, s138_46, s138_47, s138_50, s138_53, s138_54, s138_55, s138_58, mis, mg1, mg2, mg3, mg4, mg5, mg6, mg7, mg8, mg9, mg10, mg11, mg12, mg13, mg14, mg15, mg16, mg17, mg18, mg19, mg20, mg21, mg22, ms1, ms2, ms3, ms4, ms5, ms6, ms7, ms8, ms9, ms10, ms11, ms12, ms13, ms14, ms15, ms16, ms17, ms18, ms19, ms20, ms21, ms22, mf0, mf1, mf2, mf3, mf4, mf5, mf6, mf7, mf8, mf9, mf10, mf11, mf12, mf13, mf14, mf15, mf16, mf17, mf18, mf19, mf20, mf21, mf22, mf23, mf24, mf25, mf26, mp4, mp7, mp22, mp25, mp26, mq_0, al_I, as_I, zl_Z, zs_0, zs_1, Nat.reduceAdd, Nat.reduceLeDiff, Nat.zero_le, cat_0, cat_i, cat_r, opt_n, opt_s, true_and, nI_add, pk_mul, ua_ua, ua_s, ua_n, not_false_eq_true, Nat.reduceEqDiff]
    exact hX D hD hD2
theorem l_tr {o : Nat} (h1 : 1 ≤ v) (h2 : v ≤ 5) (hp : 2 ≤ p) (hp2 : p ≤ 101) (hlo : lo < p) (hT : mTab v A) (hS : mSt v p lo S (A 1)) (hSl : ∀ s, s < 5 → ∀ d, S s d < p) (ho : o < 5) : ∀ (n t acc : Nat), n + t = tC v → acc < p → X (some (.int (nI (trc v p lo (S o) n t acc)))) (mdl M A g) → ex_W 139 13 [.ref M, .int (nI o), .int (nI acc), .int (nI t)] [] (mdl M A g) X := by
  have hC := tC_le h1 h2
  intro n
  induction n with
  | zero =>
    intro t acc hn ha hX
    obtain rfl : t = tC v := by omega
    rw [s139_13]
    simp only [s139_0, s139_1, s139_4, s139_7, s139_8, s139_9, s139_10, s139_11, s139_12, s139_14, s139_15, s139_18, s139_21, s139_22, s139_23, s139_24, s139_27, s139_28, s139_29, s139_30, s139_33, s139_34, s139_35, s139_36, s139_37, s139_40, s139_43, s139_44, s139_45, s139_48, s139_49, s139_52, s139_55, s139_56, mis, mg1, mg2, mg3, mg4, mg5, mg6, mg7, mg8, mg9, mg10, mg11, mg12, mg13, mg14, mg15, mg16, mg17, mg18, mg19, mg20, mg21, mg22, ms1, ms2, ms3, ms4, ms5, ms6, ms7, ms8, ms9, ms10, ms11, ms12, ms13, ms14, ms15, ms16, ms17, ms18, ms19, ms20, ms21, ms22, mf0, mf1, mf2, mf3, mf4, mf5, mf6, mf7, mf8, mf9, mf10, mf11, mf12, mf13, mf14, mf15, mf16, mf17, mf18, mf19, mf20, mf21, mf22, mf23, mf24, mf25, mf26, mp4, mp7, mp22, mp25, mp26, mq_0, al_I, as_I, zl_Z, zs_0, zs_1, Nat.reduceAdd, Nat.reduceLeDiff, Nat.zero_le, cat_0, cat_i, cat_r, opt_n, opt_s, true_and, nI_add, pk_mul, ua_ua, ua_s, ua_n, not_false_eq_true, Nat.reduceEqDiff, hT.1]
    rw [if_pos ((nI_l1 (by omega) (by omega)).mpr (by omega))]
    exact hX
  | succ n ih =>
    intro t acc hn ha hX
    have ht : t < tC v := by omega
    have e1 := hS.2.2.2 o ho t (by omega)
    have q1 := hSl o ho t
    have q2 : lo ^ tCl v t % p < p := Nat.mod_lt _ (by omega)
    have hcl := (tTu_lt h1 h2 ht).2.1
    have b1 : acc + S o t * (lo ^ tCl v t % p) < 2147483648 := by
      have : S o t * (lo ^ tCl v t % p) ≤ 101 * 101 := Nat.mul_le_mul (by omega) (by omega)
      omega
    rw [trc] at hX
    rw [s139_13]
    simp only [s139_0, s139_1, s139_4, s139_7, s139_8, s139_9, s139_10, s139_11, s139_12, s139_14, s139_15, s139_18, s139_21, s139_22, s139_23, s139_24, s139_27, s139_28, s139_29, s139_30, s139_33, s139_34, s139_35, s139_36, s139_37, s139_40, s139_43, s139_44, s139_45, s139_48, s139_49, s139_52, s139_55, s139_56, mis, mg1, mg2, mg3, mg4, mg5, mg6, mg7, mg8, mg9, mg10, mg11, mg12, mg13, mg14, mg15, mg16, mg17, mg18, mg19, mg20, mg21, mg22, ms1, ms2, ms3, ms4, ms5, ms6, ms7, ms8, ms9, ms10, ms11, ms12, ms13, ms14, ms15, ms16, ms17, ms18, ms19, ms20, ms21, ms22, mf0, mf1, mf2, mf3, mf4, mf5, mf6, mf7, mf8, mf9, mf10, mf11, mf12, mf13, mf14, mf15, mf16, mf17, mf18, mf19, mf20, mf21, mf22, mf23, mf24, mf25, mf26, mp4, mp7, mp22, mp25, mp26, mq_0, al_I, as_I, zl_Z, zs_0, zs_1, Nat.reduceAdd, Nat.reduceLeDiff, Nat.zero_le, cat_0, cat_i, cat_r, opt_n, opt_s, true_and, nI_add, pk_mul, ua_ua, ua_s, ua_n, not_false_eq_true, Nat.reduceEqDiff, hT.1, r_place, xi_n (show 3 + 42 * o + t < 213 by omega) (show 213 < 2147483648 by decide), e1]
    rw [if_neg (fun z => absurd ((nI_l1 (by omega) (by omega)).mp z) (by omega))]
    refine r_closedLoops h1 h2 ht hS.1 hT ?_
    simp only [s139_0, s139_1, s139_4, s139_7, s139_8, s139_9, s139_10, s139_11, s139_12, s139_14, s139_15, s139_18, s139_21, s139_22, s139_23, s139_24, s139_27, s139_28, s139_29, s139_30, s139_33, s139_34, s139_35, s139_36, s139_37, s139_40, s139_43, s139_44, s139_45, s139_48, s139_49, s139_52, s139_55, s139_56, mis, mg1, mg2, mg3, mg4, mg5, mg6, mg7, mg8, mg9, mg10, mg11, mg12, mg13, mg14, mg15, mg16, mg17, mg18, mg19, mg20, mg21, mg22, ms1, ms2, ms3, ms4, ms5, ms6, ms7, ms8, ms9, ms10, ms11, ms12, ms13, ms14, ms15, ms16, ms17, ms18, ms19, ms20, ms21, ms22, mf0, mf1, mf2, mf3, mf4, mf5, mf6, mf7, mf8, mf9, mf10, mf11, mf12, mf13, mf14, mf15, mf16, mf17, mf18, mf19, mf20, mf21, mf22, mf23, mf24, mf25, mf26, mp4, mp7, mp22, mp25, mp26, mq_0, al_I, as_I, zl_Z, zs_0, zs_1, Nat.reduceAdd, Nat.reduceLeDiff, Nat.zero_le, cat_0, cat_i, cat_r, opt_n, opt_s, true_and, nI_add, pk_mul, ua_ua, ua_s, ua_n, not_false_eq_true, Nat.reduceEqDiff]
    refine r_loopTimes hp hp2 hS.2.1 hS.2.2.1 hlo (by omega) ?_
    simp only [s139_0, s139_1, s139_4, s139_7, s139_8, s139_9, s139_10, s139_11, s139_12, s139_14, s139_15, s139_18, s139_21, s139_22, s139_23, s139_24, s139_27, s139_28, s139_29, s139_30, s139_33, s139_34, s139_35, s139_36, s139_37, s139_40, s139_43, s139_44, s139_45, s139_48, s139_49, s139_52, s139_55, s139_56, mis, mg1, mg2, mg3, mg4, mg5, mg6, mg7, mg8, mg9, mg10, mg11, mg12, mg13, mg14, mg15, mg16, mg17, mg18, mg19, mg20, mg21, mg22, ms1, ms2, ms3, ms4, ms5, ms6, ms7, ms8, ms9, ms10, ms11, ms12, ms13, ms14, ms15, ms16, ms17, ms18, ms19, ms20, ms21, ms22, mf0, mf1, mf2, mf3, mf4, mf5, mf6, mf7, mf8, mf9, mf10, mf11, mf12, mf13, mf14, mf15, mf16, mf17, mf18, mf19, mf20, mf21, mf22, mf23, mf24, mf25, mf26, mp4, mp7, mp22, mp25, mp26, mq_0, al_I, as_I, zl_Z, zs_0, zs_1, Nat.reduceAdd, Nat.reduceLeDiff, Nat.zero_le, cat_0, cat_i, cat_r, opt_n, opt_s, true_and, nI_add, pk_mul, ua_ua, ua_s, ua_n, not_false_eq_true, Nat.reduceEqDiff, r_by hp hp2 hS.2.1, nF_n hp (show p < 32768 by omega) b1]
    exact ih (t + 1) _ (by omega) (Nat.mod_lt _ (by omega)) hX
def aTr (v p lo : Nat) (S : Nat → Nat → Nat) (x : Int32) : Int32 := if isW 0 4 x then nI (trc v p lo (S (ix x)) (tC v) 0 0) else -1
theorem r_trace {x : Int32} (h1 : 1 ≤ v) (h2 : v ≤ 5) (hp : 2 ≤ p) (hp2 : p ≤ 101) (hlo : lo < p) (hT : mTab v A) (hS : mSt v p lo S (A 1)) (hSl : ∀ s, s < 5 → ∀ d, S s d < p) (hX : X (some (.int (aTr v p lo S x))) (mdl M A g)) : ex_W 139 0 [.ref M, .int x, oU, oU] [] (mdl M A g) X := by
  unfold aTr at hX
  by_cases hx : isW 0 4 x
  · obtain ⟨_, x2, x3⟩ := isW_e (by decide) (by decide) hx
    rw [if_pos hx] at hX
    simp only [s139_0, s139_1, s139_4, s139_7, s139_8, s139_9, s139_10, s139_11, s139_12, s139_14, s139_15, s139_18, s139_21, s139_22, s139_23, s139_24, s139_27, s139_28, s139_29, s139_30, s139_33, s139_34, s139_35, s139_36, s139_37, s139_40, s139_43, s139_44, s139_45, s139_48, s139_49, s139_52, s139_55, s139_56, mis, mg1, mg2, mg3, mg4, mg5, mg6, mg7, mg8, mg9, mg10, mg11, mg12, mg13, mg14, mg15, mg16, mg17, mg18, mg19, mg20, mg21, mg22, ms1, ms2, ms3, ms4, ms5, ms6, ms7, ms8, ms9, ms10, ms11, ms12, ms13, ms14, ms15, ms16, ms17, ms18, ms19, ms20, ms21, ms22, mf0, mf1, mf2, mf3, mf4, mf5, mf6, mf7, mf8, mf9, mf10, mf11, mf12, mf13, mf14, mf15, mf16, mf17, mf18, mf19, mf20, mf21, mf22, mf23, mf24, mf25, mf26, mp4, mp7, mp22, mp25, mp26, mq_0, al_I, as_I, zl_Z, zs_0, zs_1, Nat.reduceAdd, Nat.reduceLeDiff, Nat.zero_le, cat_0, cat_i, cat_r, opt_n, opt_s, true_and, nI_add, pk_mul, ua_ua, ua_s, ua_n, not_false_eq_true, Nat.reduceEqDiff, r_isS, if_pos hx, i10, i10n, not_true_eq_false, if_false, if_true]
    rw [← x3]
    exact l_tr h1 h2 hp hp2 hlo hT hS hSl (by omega) (tC v) 0 0 (by omega) (by omega) hX
  · rw [if_neg hx] at hX
    simp only [s139_0, s139_1, s139_4, s139_7, s139_8, s139_9, s139_10, s139_11, s139_12, s139_14, s139_15, s139_18, s139_21, s139_22, s139_23, s139_24, s139_27, s139_28, s139_29, s139_30, s139_33, s139_34, s139_35, s139_36, s139_37, s139_40, s139_43, s139_44, s139_45, s139_48, s139_49, s139_52, s139_55, s139_56, mis, mg1, mg2, mg3, mg4, mg5, mg6, mg7, mg8, mg9, mg10, mg11, mg12, mg13, mg14, mg15, mg16, mg17, mg18, mg19, mg20, mg21, mg22, ms1, ms2, ms3, ms4, ms5, ms6, ms7, ms8, ms9, ms10, ms11, ms12, ms13, ms14, ms15, ms16, ms17, ms18, ms19, ms20, ms21, ms22, mf0, mf1, mf2, mf3, mf4, mf5, mf6, mf7, mf8, mf9, mf10, mf11, mf12, mf13, mf14, mf15, mf16, mf17, mf18, mf19, mf20, mf21, mf22, mf23, mf24, mf25, mf26, mp4, mp7, mp22, mp25, mp26, mq_0, al_I, as_I, zl_Z, zs_0, zs_1, Nat.reduceAdd, Nat.reduceLeDiff, Nat.zero_le, cat_0, cat_i, cat_r, opt_n, opt_s, true_and, nI_add, pk_mul, ua_ua, ua_s, ua_n, not_false_eq_true, Nat.reduceEqDiff, r_isS, if_neg hx, i10, i10n, not_true_eq_false, if_false, if_true]
    exact hX
theorem l_bk {K : Nat} (hp : 2 ≤ p) (hp2 : p ≤ 101) (hlo : lo < p) (hp1 : A 1 1 = nI p) (hl1 : A 1 2 = nI lo) (hK : K ≤ 200) : ∀ (n i : Nat) (l5 : Value), n + i = K → X (some (.int (nI (bkp p lo K).2))) (mdl M A g) → ex_W 140 17 [.ref M, .int (nI (K + 1)), .int (nI (bkp p lo i).1), .int (nI (bkp p lo i).2), .int (nI (i + 2)), l5] [] (mdl M A g) X := by
  intro n
  induction n with
  | zero =>
    intro i l5 hn hX
    obtain rfl : i = K := by omega
    rw [s140_17]
    simp only [s140_0, s140_1, s140_2, s140_3, s140_4, s140_7, s140_8, s140_9, s140_12, s140_13, s140_14, s140_15, s140_19, s140_20, s140_23, s140_24, s140_25, s140_28, s140_29, s140_30, s140_31, s140_32, s140_33, s140_34, s140_37, s140_39, s140_40, s140_41, s140_43, s140_44, s140_47, s140_50, s140_51, mis, mg1, mg2, mg3, mg4, mg5, mg6, mg7, mg8, mg9, mg10, mg11, mg12, mg13, mg14, mg15, mg16, mg17, mg18, mg19, mg20, mg21, mg22, ms1, ms2, ms3, ms4, ms5, ms6, ms7, ms8, ms9, ms10, ms11, ms12, ms13, ms14, ms15, ms16, ms17, ms18, ms19, ms20, ms21, ms22, mf0, mf1, mf2, mf3, mf4, mf5, mf6, mf7, mf8, mf9, mf10, mf11, mf12, mf13, mf14, mf15, mf16, mf17, mf18, mf19, mf20, mf21, mf22, mf23, mf24, mf25, mf26, mp4, mp7, mp22, mp25, mp26, mq_0, al_I, as_I, zl_Z, zs_0, zs_1, Nat.reduceAdd, Nat.reduceLeDiff, Nat.zero_le, cat_0, cat_i, cat_r, opt_n, opt_s, true_and, nI_add, pk_mul, ua_ua, ua_s, ua_n, not_false_eq_true, Nat.reduceEqDiff]
    rw [if_pos ((nI_l2 (by omega) (by omega)).mpr (by omega))]
    exact hX
  | succ n ih =>
    intro i l5 hn hX
    obtain ⟨q1, q2⟩ := bkp_lt (p := p) (lo := lo) hp i
    have b1 : lo * (bkp p lo i).2 < 1073741824 := by
      have : lo * (bkp p lo i).2 ≤ 101 * 101 := Nat.mul_le_mul (by omega) (by omega)
      omega
    rw [s140_17]
    simp only [s140_0, s140_1, s140_2, s140_3, s140_4, s140_7, s140_8, s140_9, s140_12, s140_13, s140_14, s140_15, s140_19, s140_20, s140_23, s140_24, s140_25, s140_28, s140_29, s140_30, s140_31, s140_32, s140_33, s140_34, s140_37, s140_39, s140_40, s140_41, s140_43, s140_44, s140_47, s140_50, s140_51, mis, mg1, mg2, mg3, mg4, mg5, mg6, mg7, mg8, mg9, mg10, mg11, mg12, mg13, mg14, mg15, mg16, mg17, mg18, mg19, mg20, mg21, mg22, ms1, ms2, ms3, ms4, ms5, ms6, ms7, ms8, ms9, ms10, ms11, ms12, ms13, ms14, ms15, ms16, ms17, ms18, ms19, ms20, ms21, ms22, mf0, mf1, mf2, mf3, mf4, mf5, mf6, mf7, mf8, mf9, mf10, mf11, mf12, mf13, mf14, mf15, mf16, mf17, mf18, mf19, mf20, mf21, mf22, mf23, mf24, mf25, mf26, mp4, mp7, mp22, mp25, mp26, mq_0, al_I, as_I, zl_Z, zs_0, zs_1, Nat.reduceAdd, Nat.reduceLeDiff, Nat.zero_le, cat_0, cat_i, cat_r, opt_n, opt_s, true_and, nI_add, pk_mul, ua_ua, ua_s, ua_n, not_false_eq_true, Nat.reduceEqDiff, xi_n (show 2 < 213 by omega) (show 213 < 2147483648 by decide), hl1, r_by hp hp2 hp1, nF_s hp (show p < 32768 by omega) b1 (Nat.le_of_lt q1)]
    rw [if_neg (fun z => absurd ((nI_l2 (by omega) (by omega)).mp z) (by omega))]
    exact ih (i + 1) _ (by omega) hX
theorem r_bracketOf {k : Nat} (hp : 2 ≤ p) (hp2 : p ≤ 101) (hlo : lo < p) (hp1 : A 1 1 = nI p) (hl1 : A 1 2 = nI lo) (hk : k ≤ 200) (hX : X (some (.int (nI (bk p lo k)))) (mdl M A g)) : ex_W 140 0 [.ref M, .int (nI k), oU, oU, oU, oU] [] (mdl M A g) X := by
  simp only [s140_0, s140_1, s140_2, s140_3, s140_4, s140_7, s140_8, s140_9, s140_12, s140_13, s140_14, s140_15, s140_19, s140_20, s140_23, s140_24, s140_25, s140_28, s140_29, s140_30, s140_31, s140_32, s140_33, s140_34, s140_37, s140_39, s140_40, s140_41, s140_43, s140_44, s140_47, s140_50, s140_51, mis, mg1, mg2, mg3, mg4, mg5, mg6, mg7, mg8, mg9, mg10, mg11, mg12, mg13, mg14, mg15, mg16, mg17, mg18, mg19, mg20, mg21, mg22, ms1, ms2, ms3, ms4, ms5, ms6, ms7, ms8, ms9, ms10, ms11, ms12, ms13, ms14, ms15, ms16, ms17, ms18, ms19, ms20, ms21, ms22, mf0, mf1, mf2, mf3, mf4, mf5, mf6, mf7, mf8, mf9, mf10, mf11, mf12, mf13, mf14, mf15, mf16, mf17, mf18, mf19, mf20, mf21, mf22, mf23, mf24, mf25, mf26, mp4, mp7, mp22, mp25, mp26, mq_0, al_I, as_I, zl_Z, zs_0, zs_1, Nat.reduceAdd, Nat.reduceLeDiff, Nat.zero_le, cat_0, cat_i, cat_r, opt_n, opt_s, true_and, nI_add, pk_mul, ua_ua, ua_s, ua_n, not_false_eq_true, Nat.reduceEqDiff, r_by hp hp2 hp1, nF_n hp (show p < 32768 by omega) (show 1 < 2147483648 by decide)]
  cases k with
  | zero =>
    rw [if_neg (fun z => z rfl)]
    exact hX
  | succ k =>
    rw [if_pos (fun z => absurd ((nI_e (by omega) (by omega)).mp z) (by omega)), Nat.mod_eq_of_lt (show 1 < p by omega)]
    exact l_bk hp hp2 hlo hp1 hl1 (by omega) k 0 _ (by omega) hX
def aBr (p lo : Nat) (x : Int32) : Int32 := if isW 0 99 x then nI (bk p lo (ix x)) else -2
theorem r_bracket {x : Int32} (hp : 2 ≤ p) (hp2 : p ≤ 101) (hlo : lo < p) (hp1 : A 1 1 = nI p) (hl1 : A 1 2 = nI lo) (hX : X (some (.int (aBr p lo x))) (mdl M A g)) : ex_W 141 0 [.ref M, .int x] [] (mdl M A g) X := by
  unfold aBr at hX
  by_cases hx : isW 0 99 x
  · obtain ⟨_, x2, x3⟩ := isW_e (by decide) (by decide) hx
    rw [if_pos hx] at hX
    simp only [s141_0, s141_1, s141_2, s141_4, s141_7, s141_10, s141_11, s141_12, s141_15, s141_18, s141_20, mis, mg1, mg2, mg3, mg4, mg5, mg6, mg7, mg8, mg9, mg10, mg11, mg12, mg13, mg14, mg15, mg16, mg17, mg18, mg19, mg20, mg21, mg22, ms1, ms2, ms3, ms4, ms5, ms6, ms7, ms8, ms9, ms10, ms11, ms12, ms13, ms14, ms15, ms16, ms17, ms18, ms19, ms20, ms21, ms22, mf0, mf1, mf2, mf3, mf4, mf5, mf6, mf7, mf8, mf9, mf10, mf11, mf12, mf13, mf14, mf15, mf16, mf17, mf18, mf19, mf20, mf21, mf22, mf23, mf24, mf25, mf26, mp4, mp7, mp22, mp25, mp26, mq_0, al_I, as_I, zl_Z, zs_0, zs_1, Nat.reduceAdd, Nat.reduceLeDiff, Nat.zero_le, cat_0, cat_i, cat_r, opt_n, opt_s, true_and, nI_add, pk_mul, ua_ua, ua_s, ua_n, not_false_eq_true, Nat.reduceEqDiff, r_inW, if_pos hx, i10, i10n, not_true_eq_false, if_false, if_true]
    rw [← x3]
    refine r_bracketOf hp hp2 hlo hp1 hl1 (by omega) ?_
    simp only [s141_0, s141_1, s141_2, s141_4, s141_7, s141_10, s141_11, s141_12, s141_15, s141_18, s141_20, mis, mg1, mg2, mg3, mg4, mg5, mg6, mg7, mg8, mg9, mg10, mg11, mg12, mg13, mg14, mg15, mg16, mg17, mg18, mg19, mg20, mg21, mg22, ms1, ms2, ms3, ms4, ms5, ms6, ms7, ms8, ms9, ms10, ms11, ms12, ms13, ms14, ms15, ms16, ms17, ms18, ms19, ms20, ms21, ms22, mf0, mf1, mf2, mf3, mf4, mf5, mf6, mf7, mf8, mf9, mf10, mf11, mf12, mf13, mf14, mf15, mf16, mf17, mf18, mf19, mf20, mf21, mf22, mf23, mf24, mf25, mf26, mp4, mp7, mp22, mp25, mp26, mq_0, al_I, as_I, zl_Z, zs_0, zs_1, Nat.reduceAdd, Nat.reduceLeDiff, Nat.zero_le, cat_0, cat_i, cat_r, opt_n, opt_s, true_and, nI_add, pk_mul, ua_ua, ua_s, ua_n, not_false_eq_true, Nat.reduceEqDiff]
    exact hX
  · rw [if_neg hx] at hX
    simp only [s141_0, s141_1, s141_2, s141_4, s141_7, s141_10, s141_11, s141_12, s141_15, s141_18, s141_20, mis, mg1, mg2, mg3, mg4, mg5, mg6, mg7, mg8, mg9, mg10, mg11, mg12, mg13, mg14, mg15, mg16, mg17, mg18, mg19, mg20, mg21, mg22, ms1, ms2, ms3, ms4, ms5, ms6, ms7, ms8, ms9, ms10, ms11, ms12, ms13, ms14, ms15, ms16, ms17, ms18, ms19, ms20, ms21, ms22, mf0, mf1, mf2, mf3, mf4, mf5, mf6, mf7, mf8, mf9, mf10, mf11, mf12, mf13, mf14, mf15, mf16, mf17, mf18, mf19, mf20, mf21, mf22, mf23, mf24, mf25, mf26, mp4, mp7, mp22, mp25, mp26, mq_0, al_I, as_I, zl_Z, zs_0, zs_1, Nat.reduceAdd, Nat.reduceLeDiff, Nat.zero_le, cat_0, cat_i, cat_r, opt_n, opt_s, true_and, nI_add, pk_mul, ua_ua, ua_s, ua_n, not_false_eq_true, Nat.reduceEqDiff, r_inW, if_neg hx, i10, i10n, not_true_eq_false, if_false, if_true]
    exact hX
theorem l_inv {x : Nat} (hp : 2 ≤ p) (hp2 : p ≤ 101) (hx : x < p) (hp1 : A 1 1 = nI p) {res : Nat} (hr : res ≠ 0) (hX : X (some (.int (nI res))) (mdl M A g)) : ∀ (n w : Nat), n + w ≤ 101 → invL p x n w = res → ex_W 142 2 [.ref M, .int (nI x), .int (nI w)] [] (mdl M A g) X := by
  intro n
  induction n with
  | zero =>
    intro w hn he
    exact absurd he.symm hr
  | succ n ih =>
    intro w hn he
    rw [invL] at he
    have b1 : x * w < 2147483648 := by
      have : x * w ≤ 101 * 101 := Nat.mul_le_mul (by omega) (by omega)
      omega
    have b2 : x * w % p < p := Nat.mod_lt _ (by omega)
    rw [s142_2]
    simp only [s142_0, s142_1, s142_3, s142_4, s142_5, s142_6, s142_9, s142_10, s142_11, s142_14, s142_17, s142_20, s142_23, s142_24, mis, mg1, mg2, mg3, mg4, mg5, mg6, mg7, mg8, mg9, mg10, mg11, mg12, mg13, mg14, mg15, mg16, mg17, mg18, mg19, mg20, mg21, mg22, ms1, ms2, ms3, ms4, ms5, ms6, ms7, ms8, ms9, ms10, ms11, ms12, ms13, ms14, ms15, ms16, ms17, ms18, ms19, ms20, ms21, ms22, mf0, mf1, mf2, mf3, mf4, mf5, mf6, mf7, mf8, mf9, mf10, mf11, mf12, mf13, mf14, mf15, mf16, mf17, mf18, mf19, mf20, mf21, mf22, mf23, mf24, mf25, mf26, mp4, mp7, mp22, mp25, mp26, mq_0, al_I, as_I, zl_Z, zs_0, zs_1, Nat.reduceAdd, Nat.reduceLeDiff, Nat.zero_le, cat_0, cat_i, cat_r, opt_n, opt_s, true_and, nI_add, pk_mul, ua_ua, ua_s, ua_n, not_false_eq_true, Nat.reduceEqDiff, r_by hp hp2 hp1, nF_n hp (show p < 32768 by omega) b1, nF_n hp (show p < 32768 by omega) (show 1 < 2147483648 by decide), Nat.mod_eq_of_lt (show 1 < p by omega)]
    by_cases hc : x * w % p = 1
    · rw [if_pos hc] at he
      rw [if_pos (by rw [hc]), he]
      exact hX
    · rw [if_neg hc] at he
      rw [if_neg (fun z => hc ((nI_e (by omega) (by omega)).mp z))]
      exact ih (w + 1) (by omega) he
theorem r_inverse {x : Nat} (hp : 2 ≤ p) (hp2 : p ≤ 101) (hpr : prT p = true) (hx : x < p) (hx0 : x ≠ 0) (hp1 : A 1 1 = nI p) (hX : X (some (.int (nI (iv p x)))) (mdl M A g)) : ex_W 142 0 [.ref M, .int (nI x), oU] [] (mdl M A g) X := by
  rw [s142_0, s142_1]
  exact l_inv hp hp2 hx hp1 (iv_ok hp hp2 hpr hx hx0).1 hX (p - 1) 1 (by omega) rfl
end M10
