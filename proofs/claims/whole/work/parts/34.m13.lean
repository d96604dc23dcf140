/-! THE REFERENCE: forms -/
section M13
variable {M : Nat} {A : Nat → Nat → Int32} {g h : ex_Hp} {X : Option Value → ex_Hp → Prop} {v a b d p lo s r : Nat} {f0 : Nat → Int32} {S : Nat → Nat → Nat} {A0 : Nat → Nat → Int32}
theorem hTab.u11 {f : Nat → Int32} (h : hTab v r A) : hTab v r (ua A 11 f) := by
  unfold hTab
  rw [ua_n (by decide), ua_n (by decide)]
  exact h
theorem hV_l {q : Nat} (h : q ≤ 5) : (hV q < nI 0) ↔ q = 5 := by
  by_cases h5 : q = 5
  · subst h5
    exact ⟨fun _ => rfl, fun _ => by decide⟩
  · rw [hV_n h5]
    exact ⟨fun z => absurd z (fun z => absurd ((nI_l2 (by omega) (by omega)).mp z) (by omega)), fun z => absurd z h5⟩
theorem l_f5 {l1 l2 l3 l5 l6 : Value} (h2 : v ≤ 5) (hv : A 1 0 = nI v) (hX : ∀ f : Nat → Int32, (∀ j, j < v → f j = nI 0) → ex_W 148 30 [.ref M, l1, l2, l3, .int (nI v), l5, l6] [] (mdl M (ua A 11 f) g) X) : ∀ (n t : Nat) (f : Nat → Int32), n + t = v → (∀ j, j < t → f j = nI 0) → ex_W 148 5 [.ref M, l1, l2, l3, .int (nI t), l5, l6] [] (mdl M (ua A 11 f) g) X := by
  intro n
  induction n with
  | zero =>
    intro t f hn hf
    obtain rfl : t = v := by omega
    rw [s148_5]
    simp only [s148_0, s148_1, s148_2, s148_3, s148_7, s148_8, s148_11, s148_12, s148_13, s148_16, s148_17, s148_20, s148_22, s148_23, s148_24, s148_27, s148_31, s148_33, s148_35, s148_36, s148_39, s148_40, s148_41, s148_44, s148_45, s148_48, s148_49, s148_50, s148_51, s148_53, s148_54, s148_55, s148_58, s148_59, s148_60, s148_61, s148_63, s148_66, s148_69, s148_70, s148_73, s148_74, s148_77, s148_78, s148_79, s148_82, s148_85, s148_86, s148_89, s148_90, s148_91, s148_92, s148_94, s148_95, s148_97, s148_99, s148_100, s148_103, s148_104, s148_105, s148_108, s148_109, s148_112, s148_114, s148_115, s148_118, s148_121, s148_123, s148_125, s148_126, s148_129, s148_131, s148_132, s148_135, s148_136, s148_139, s148_141, s148_142, s148_143, s148_144, s148_147, s148_148, s148_151, s148_152, s148_153, s148_154, s148_156, s148_157, s148_158, s148_159, s148_160, s148_161, s148_164, s148_165, s148_166, s148_167, s148_168, s148_171, s148_172, s148_173, s148_174, s148_176, s148_177, s148_178, s148_179, s148_180, s148_182, s148_185, s148_188, s148_191, s148_192, s148_194, s148_197, mis, mg1, mg2, mg3, mg4, mg5, mg6, mg7, mg8, mg9, mg10, mg11, mg12, mg13, mg14, mg15, mg16, mg17, mg18, mg19, mg20, mg21, mg22, ms1, ms2, ms3, ms4, ms5, ms6, ms7, ms8, ms9, ms10, ms11, ms12, ms13, ms14, ms15, ms16, ms17, ms18, ms19, ms20, ms21, ms22, mf0, mf1, mf2, mf3, mf4, mf5, mf6, mf7, mf8, mf9, mf10, mf11, mf12, mf13, mf14, mf15, mf16, mf17, mf18, mf19, mf20, mf21, mf22, mf23, mf24, mf25, mf26, mp4, mp7, mp22, mp25, mp26, mq_0, al_I, as_I, zl_Z, zs_0, zs_1, Nat.reduceAdd, Nat.reduceLeDiff, Nat.zero_le, cat_0, cat_i, cat_r, opt_n, opt_s, true_and, nI_add, pk_mul, ua_ua, ua_s, ua_n, not_false_eq_true, Nat.reduceEqDiff, hv, xi_n (show 0 < 213 by omega) (show 213 < 2147483648 by decide)]
    rw [if_pos ((nI_l1 (by omega) (by omega)).mpr (by omega))]
    exact hX f hf
  | succ n ih =>
    intro t f hn hf
    rw [s148_5]
    simp only [s148_0, s148_1, s148_2, s148_3, s148_7, s148_8, s148_11, s148_12, s148_13, s148_16, s148_17, s148_20, s148_22, s148_23, s148_24, s148_27, s148_31, s148_33, s148_35, s148_36, s148_39, s148_40, s148_41, s148_44, s148_45, s148_48, s148_49, s148_50, s148_51, s148_53, s148_54, s148_55, s148_58, s148_59, s148_60, s148_61, s148_63, s148_66, s148_69, s148_70, s148_73, s148_74, s148_77, s148_78, s148_79, s148_82, s148_85, s148_86, s148_89, s148_90, s148_91, s148_92, s148_94, s148_95, s148_97, s148_99, s148_100, s148_103, s148_104, s148_105, s148_108, s148_109, s148_112, s148_114, s148_115, s148_118, s148_121, s148_123, s148_125, s148_126, s148_129, s148_131, s148_132, s148_135, s148_136, s148_139, s148_141, s148_142, s148_143, s148_144, s148_147, s148_148, s148_151, s148_152, s148_153, s148_154, s148_156, s148_157, s148_158, s148_159, s148_160, s148_161, s148_164, s148_165, s148_166, s148_167, s148_168, s148_171, s148_172, s148_173, s148_174, s148_176, s148_177, s148_178, s148_179, s148_180, s148_182, s148_185, s148_188, s148_191, s148_192, s148_194, s148_197, mis, mg1, mg2, mg3, mg4, mg5, mg6, mg7, mg8, mg9, mg10, mg11, mg12, mg13, mg14, mg15, mg16, mg17, mg18, mg19, mg20, mg21, mg22, ms1, ms2, ms3, ms4, ms5, ms6, ms7, ms8, ms9, ms10, ms11, ms12, ms13, ms14, ms15, ms16, ms17, ms18, ms19, ms20, ms21, ms22, mf0, mf1, mf2, mf3, mf4, mf5, mf6, mf7, mf8, mf9, mf10, mf11, mf12, mf13, mf14, mf15, mf16, mf17, mf18, mf19, mf20, mf21, mf22, mf23, mf24, mf25, mf26, mp4, mp7, mp22, mp25, mp26, mq_0, al_I, as_I, zl_Z, zs_0, zs_1, Nat.reduceAdd, Nat.reduceLeDiff, Nat.zero_le, cat_0, cat_i, cat_r, opt_n, opt_s, true_and, nI_add, pk_mul, ua_ua, ua_s, ua_n, not_false_eq_true, Nat.reduceEqDiff, hv, xi_n (show 0 < 213 by omega) (show 213 < 2147483648 by decide), xi_n (show t < 5 by omega) (show 5 < 2147483648 by decide)]
    rw [if_neg (fun z => absurd ((nI_l1 (by omega) (by omega)).mp z) (by omega))]
    refine ih (t + 1) _ (by omega) (fun j hj => ?_)
    by_cases hc : j = t
    · rw [hc, pk_us]
    · rw [pk_un hc]
      exact hf j (by omega)
theorem l_f33 {x y : Nat} {l5 l6 : Value} (h1 : 1 ≤ v) (h2 : v ≤ 5) (hr : okR v r) (hx : x < tHn v r) (hy : y < tHn v r) (hv : A 1 0 = nI v) (hH : hTab v r A) {is1 : Bool} {mq1 : List Nat} (hX : ex_W 148 85 [.ref M, .int (nI x), .int (nI y), .int (bI is1), .int (nI v), l5, l6] [] (mdl M (ua A 11 (mz mq1 f0)) g) X) : ∀ (n t : Nat) (is : Bool) (ms : List Nat), n + t = v → fo1 v r x y n t is ms = some (is1, mq1) → ex_W 148 33 [.ref M, .int (nI x), .int (nI y), .int (bI is), .int (nI t), l5, l6] [] (mdl M (ua A 11 (mz ms f0)) g) X := by
  obtain ⟨_, _, k2, k3⟩ := tHf0 h1 h2 hr
  intro n
  induction n with
  | zero =>
    intro t is ms hn he
    cases he
    obtain rfl : t = v := by omega
    rw [s148_33]
    simp only [s148_0, s148_1, s148_2, s148_3, s148_5, s148_7, s148_8, s148_11, s148_12, s148_13, s148_16, s148_17, s148_20, s148_22, s148_23, s148_24, s148_27, s148_30, s148_31, s148_35, s148_36, s148_39, s148_40, s148_41, s148_44, s148_45, s148_48, s148_49, s148_50, s148_51, s148_53, s148_54, s148_55, s148_58, s148_59, s148_60, s148_61, s148_63, s148_66, s148_69, s148_70, s148_73, s148_74, s148_77, s148_78, s148_79, s148_82, s148_86, s148_89, s148_90, s148_91, s148_92, s148_94, s148_95, s148_97, s148_99, s148_100, s148_103, s148_104, s148_105, s148_108, s148_109, s148_112, s148_114, s148_115, s148_118, s148_121, s148_123, s148_125, s148_126, s148_129, s148_131, s148_132, s148_135, s148_136, s148_139, s148_141, s148_142, s148_143, s148_144, s148_147, s148_148, s148_151, s148_152, s148_153, s148_154, s148_156, s148_157, s148_158, s148_159, s148_160, s148_161, s148_164, s148_165, s148_166, s148_167, s148_168, s148_171, s148_172, s148_173, s148_174, s148_176, s148_177, s148_178, s148_179, s148_180, s148_182, s148_185, s148_188, s148_191, s148_192, s148_194, s148_197, mis, mg1, mg2, mg3, mg4, mg5, mg6, mg7, mg8, mg9, mg10, mg11, mg12, mg13, mg14, mg15, mg16, mg17, mg18, mg19, mg20, mg21, mg22, ms1, ms2, ms3, ms4, ms5, ms6, ms7, ms8, ms9, ms10, ms11, ms12, ms13, ms14, ms15, ms16, ms17, ms18, ms19, ms20, ms21, ms22, mf0, mf1, mf2, mf3, mf4, mf5, mf6, mf7, mf8, mf9, mf10, mf11, mf12, mf13, mf14, mf15, mf16, mf17, mf18, mf19, mf20, mf21, mf22, mf23, mf24, mf25, mf26, mp4, mp7, mp22, mp25, mp26, mq_0, al_I, as_I, zl_Z, zs_0, zs_1, Nat.reduceAdd, Nat.reduceLeDiff, Nat.zero_le, cat_0, cat_i, cat_r, opt_n, opt_s, true_and, nI_add, pk_mul, ua_ua, ua_s, ua_n, not_false_eq_true, Nat.reduceEqDiff, hv, xi_n (show 0 < 213 by omega) (show 213 < 2147483648 by decide)]
    rw [if_pos ((nI_l1 (by omega) (by omega)).mpr (by omega))]
    exact hX
  | succ n ih =>
    intro t is ms hn he
    have ht : t < v := by omega
    have q1 := (tH_lt h1 h2 hr hx ht).1
    have q2 := (tH_lt h1 h2 hr hy ht).1
    rw [fo1] at he
    rw [s148_33]
    simp only [s148_0, s148_1, s148_2, s148_3, s148_5, s148_7, s148_8, s148_11, s148_12, s148_13, s148_16, s148_17, s148_20, s148_22, s148_23, s148_24, s148_27, s148_30, s148_31, s148_35, s148_36, s148_39, s148_40, s148_41, s148_44, s148_45, s148_48, s148_49, s148_50, s148_51, s148_53, s148_54, s148_55, s148_58, s148_59, s148_60, s148_61, s148_63, s148_66, s148_69, s148_70, s148_73, s148_74, s148_77, s148_78, s148_79, s148_82, s148_86, s148_89, s148_90, s148_91, s148_92, s148_94, s148_95, s148_97, s148_99, s148_100, s148_103, s148_104, s148_105, s148_108, s148_109, s148_112, s148_114, s148_115, s148_118, s148_121, s148_123, s148_125, s148_126, s148_129, s148_131, s148_132, s148_135, s148_136, s148_139, s148_141, s148_142, s148_143, s148_144, s148_147, s148_148, s148_151, s148_152, s148_153, s148_154, s148_156, s148_157, s148_158, s148_159, s148_160, s148_161, s148_164, s148_165, s148_166, s148_167, s148_168, s148_171, s148_172, s148_173, s148_174, s148_176, s148_177, s148_178, s148_179, s148_180, s148_182, s148_185, s148_188, s148_191, s148_192, s148_194, s148_197, mis, mg1, mg2, mg3, mg4, mg5, mg6, mg7, mg8, mg9, mg10, mg11, mg12, mg13, mg14, mg15, mg16, mg17, mg18, mg19, mg20, mg21, mg22, ms1, ms2, ms3, ms4, ms5, ms6, ms7, ms8, ms9, ms10, ms11, ms12, ms13, ms14, ms15, ms16, ms17, ms18, ms19, ms20, ms21, ms22, mf0, mf1, mf2, mf3, mf4, mf5, mf6, mf7, mf8, mf9, mf10, mf11, mf12, mf13, mf14, mf15, mf16, mf17, mf18, mf19, mf20, mf21, mf22, mf23, mf24, mf25, mf26, mp4, mp7, mp22, mp25, mp26, mq_0, al_I, as_I, zl_Z, zs_0, zs_1, Nat.reduceAdd, Nat.reduceLeDiff, Nat.zero_le, cat_0, cat_i, cat_r, opt_n, opt_s, true_and, nI_add, pk_mul, ua_ua, ua_s, ua_n, not_false_eq_true, Nat.reduceEqDiff, hv, xi_n (show 0 < 213 by omega) (show 213 < 2147483648 by decide), xi_n (show 5 * x + t < 60 by omega) (show 60 < 2147483648 by decide), hH.2 x hx t ht]
    rw [if_neg (fun z => absurd ((nI_l1 (by omega) (by omega)).mp z) (by omega))]
    by_cases h5 : tH v r x t = 5
    · rw [if_pos h5] at he
      rw [if_neg (fun z => absurd ((hV_l q1).mpr h5) (Int32.not_lt.mpr z))]
      cases hc : ctr v r x y 12 true (tH v r y t) (t :: ms) with
      | none => rw [hc] at he; cases he
      | some w =>
        obtain ⟨b, ms'⟩ := w
        rw [hc] at he
        simp only [s147_0, s147_1, s147_3, s147_4, s147_6, s147_7, s147_10, s147_12, s147_13, s147_14, s147_15, s147_18, s147_19, s147_20, s147_21, s147_23, s147_24, s147_25, mis, mg1, mg2, mg3, mg4, mg5, mg6, mg7, mg8, mg9, mg10, mg11, mg12, mg13, mg14, mg15, mg16, mg17, mg18, mg19, mg20, mg21, mg22, ms1, ms2, ms3, ms4, ms5, ms6, ms7, ms8, ms9, ms10, ms11, ms12, ms13, ms14, ms15, ms16, ms17, ms18, ms19, ms20, ms21, ms22, mf0, mf1, mf2, mf3, mf4, mf5, mf6, mf7, mf8, mf9, mf10, mf11, mf12, mf13, mf14, mf15, mf16, mf17, mf18, mf19, mf20, mf21, mf22, mf23, mf24, mf25, mf26, mp4, mp7, mp22, mp25, mp26, mq_0, al_I, as_I, zl_Z, zs_0, zs_1, Nat.reduceAdd, Nat.reduceLeDiff, Nat.zero_le, cat_0, cat_i, cat_r, opt_n, opt_s, true_and, nI_add, pk_mul, ua_ua, ua_s, ua_n, not_false_eq_true, Nat.reduceEqDiff, xi_n (show t < 5 by omega) (show 5 < 2147483648 by decide), mz_c, xi_n (show 5 * y + t < 60 by omega) (show 60 < 2147483648 by decide), hH.2 y hy t ht]
        refine l_ct h1 h2 hr hx hy hH 12 _ true (t :: ms) _ b ms' q2 hc ?_
        simp only [s148_0, s148_1, s148_2, s148_3, s148_5, s148_7, s148_8, s148_11, s148_12, s148_13, s148_16, s148_17, s148_20, s148_22, s148_23, s148_24, s148_27, s148_30, s148_31, s148_35, s148_36, s148_39, s148_40, s148_41, s148_44, s148_45, s148_48, s148_49, s148_50, s148_51, s148_53, s148_54, s148_55, s148_58, s148_59, s148_60, s148_61, s148_63, s148_66, s148_69, s148_70, s148_73, s148_74, s148_77, s148_78, s148_79, s148_82, s148_86, s148_89, s148_90, s148_91, s148_92, s148_94, s148_95, s148_97, s148_99, s148_100, s148_103, s148_104, s148_105, s148_108, s148_109, s148_112, s148_114, s148_115, s148_118, s148_121, s148_123, s148_125, s148_126, s148_129, s148_131, s148_132, s148_135, s148_136, s148_139, s148_141, s148_142, s148_143, s148_144, s148_147, s148_148, s148_151, s148_152, s148_153, s148_154, s148_156, s148_157, s148_158, s148_159, s148_160, s148_161, s148_164, s148_165, s148_166, s148_167, s148_168, s148_171, s148_172, s148_173, s148_174, s148_176, s148_177, s148_178, s148_179, s148_180, s148_182, s148_185, s148_188, s148_191, s148_192, s148_194, s148_197, mis, mg1, mg2, mg3, mg4, mg5, mg6, mg7, mg8, mg9, mg10, mg11, mg12, mg13, mg14, mg15, mg16, mg17, mg18, mg19, mg20, mg21, mg22, ms1, ms2, ms3, ms4, ms5, ms6, ms7, ms8, ms9, ms10, ms11, ms12, ms13, ms14, ms15, ms16, ms17, ms18, ms19, ms20, ms21, ms22, mf0, mf1, mf2, mf3, mf4, mf5, mf6, mf7, mf8, mf9, mf10, mf11, mf12, mf13, mf14, mf15, mf16, mf17, mf18, mf19, mf20, mf21, mf22, mf23, mf24, mf25, mf26, mp4, mp7, mp22, mp25, mp26, mq_0, al_I, as_I, zl_Z, zs_0, zs_1, Nat.reduceAdd, Nat.reduceLeDiff, Nat.zero_le, cat_0, cat_i, cat_r, opt_n, opt_s, true_and, nI_add, pk_mul, ua_ua, ua_s, ua_n, not_false_eq_true, Nat.reduceEqDiff]
        cases b with
        | false =>
          rw [if_pos (show bI false = nI 0 by decide)]
          exact ih (t + 1) false ms' (by omega) he
        | true =>
          rw [if_neg (show ¬ bI true = nI 0 by decide)]
          cases is with
          | false =>
            rw [if_pos (show bI false = nI 0 by decide)]
            exact ih (t + 1) false ms' (by omega) he
          | true =>
            rw [if_neg (show ¬ bI true = nI 0 by decide)]
            exact ih (t + 1) true ms' (by omega) he
    · rw [if_neg h5] at he
      rw [if_pos (Int32.not_lt.mp (fun z => h5 ((hV_l q1).mp z)))]
      exact ih (t + 1) is ms (by omega) he
theorem l_f125 {x y : Nat} {l3 l4 l5 : Value} (h1 : 1 ≤ v) (h2 : v ≤ 5) (hr : okR v r) (hx : x < tHn v r) (hy : y < tHn v r) (hf0 : ∀ j, j < v → f0 j = nI 0) (hH : hTab v r A) {mq1 : List Nat} (hX : ∀ l6, ex_W 148 185 [.ref M, .int (nI x), .int (nI y), l3, l4, l5, l6] [] (mdl M (ua A 11 (mz mq1 f0)) g) X) : ∀ (n t : Nat) (ms : List Nat), t < v → fmr v r x y n t ms = some mq1 → ex_W 148 125 [.ref M, .int (nI x), .int (nI y), l3, l4, l5, .int (nI t)] [] (mdl M (ua A 11 (mz ms f0)) g) X := by
  obtain ⟨_, _, k2, k3⟩ := tHf0 h1 h2 hr
  intro n
  induction n with
  | zero => intro t ms ht he; cases he
  | succ n ih =>
    intro t ms ht he
    rw [fmr] at he
    rw [s148_125]
    by_cases hm : t ∈ ms
    · rw [if_pos hm] at he
      cases he
      have e0 : mz mq1 f0 t = nI 1 := if_pos hm
      simp only [s148_0, s148_1, s148_2, s148_3, s148_5, s148_7, s148_8, s148_11, s148_12, s148_13, s148_16, s148_17, s148_20, s148_22, s148_23, s148_24, s148_27, s148_30, s148_31, s148_33, s148_35, s148_36, s148_39, s148_40, s148_41, s148_44, s148_45, s148_48, s148_49, s148_50, s148_51, s148_53, s148_54, s148_55, s148_58, s148_59, s148_60, s148_61, s148_63, s148_66, s148_69, s148_70, s148_73, s148_74, s148_77, s148_78, s148_79, s148_82, s148_85, s148_86, s148_89, s148_90, s148_91, s148_92, s148_94, s148_95, s148_97, s148_99, s148_100, s148_103, s148_104, s148_105, s148_108, s148_109, s148_112, s148_114, s148_115, s148_118, s148_121, s148_123, s148_126, s148_129, s148_131, s148_132, s148_135, s148_136, s148_139, s148_141, s148_142, s148_143, s148_144, s148_147, s148_148, s148_151, s148_152, s148_153, s148_154, s148_156, s148_157, s148_158, s148_159, s148_160, s148_161, s148_164, s148_165, s148_166, s148_167, s148_168, s148_171, s148_172, s148_173, s148_174, s148_176, s148_177, s148_178, s148_179, s148_180, s148_182, s148_188, s148_191, s148_192, s148_194, s148_197, mis, mg1, mg2, mg3, mg4, mg5, mg6, mg7, mg8, mg9, mg10, mg11, mg12, mg13, mg14, mg15, mg16, mg17, mg18, mg19, mg20, mg21, mg22, ms1, ms2, ms3, ms4, ms5, ms6, ms7, ms8, ms9, ms10, ms11, ms12, ms13, ms14, ms15, ms16, ms17, ms18, ms19, ms20, ms21, ms22, mf0, mf1, mf2, mf3, mf4, mf5, mf6, mf7, mf8, mf9, mf10, mf11, mf12, mf13, mf14, mf15, mf16, mf17, mf18, mf19, mf20, mf21, mf22, mf23, mf24, mf25, mf26, mp4, mp7, mp22, mp25, mp26, mq_0, al_I, as_I, zl_Z, zs_0, zs_1, Nat.reduceAdd, Nat.reduceLeDiff, Nat.zero_le, cat_0, cat_i, cat_r, opt_n, opt_s, true_and, nI_add, pk_mul, ua_ua, ua_s, ua_n, not_false_eq_true, Nat.reduceEqDiff, xi_n (show t < 5 by omega) (show 5 < 2147483648 by decide), e0, i10, i10n, not_true_eq_false, if_false, if_true]
      exact hX _
    · rw [if_neg hm] at he
      have e0 : mz ms f0 t = nI 0 := (if_neg hm).trans (hf0 t ht)
      by_cases hc : tH v r x t < v ∧ tH v r y (tH v r x t) < v
      · rw [if_pos hc] at he
        obtain ⟨c1, c2⟩ := hc
        simp only [s148_0, s148_1, s148_2, s148_3, s148_5, s148_7, s148_8, s148_11, s148_12, s148_13, s148_16, s148_17, s148_20, s148_22, s148_23, s148_24, s148_27, s148_30, s148_31, s148_33, s148_35, s148_36, s148_39, s148_40, s148_41, s148_44, s148_45, s148_48, s148_49, s148_50, s148_51, s148_53, s148_54, s148_55, s148_58, s148_59, s148_60, s148_61, s148_63, s148_66, s148_69, s148_70, s148_73, s148_74, s148_77, s148_78, s148_79, s148_82, s148_85, s148_86, s148_89, s148_90, s148_91, s148_92, s148_94, s148_95, s148_97, s148_99, s148_100, s148_103, s148_104, s148_105, s148_108, s148_109, s148_112, s148_114, s148_115, s148_118, s148_121, s148_123, s148_126, s148_129, s148_131, s148_132, s148_135, s148_136, s148_139, s148_141, s148_142, s148_143, s148_144, s148_147, s148_148, s148_151, s148_152, s148_153, s148_154, s148_156, s148_157, s148_158, s148_159, s148_160, s148_161, s148_164, s148_165, s148_166, s148_167, s148_168, s148_171, s148_172, s148_173, s148_174, s148_176, s148_177, s148_178, s148_179, s148_180, s148_182, s148_188, s148_191, s148_192, s148_194, s148_197, mis, mg1, mg2, mg3, mg4, mg5, mg6, mg7, mg8, mg9, mg10, mg11, mg12, mg13, mg14, mg15, mg16, mg17, mg18, mg19, mg20, mg21, mg22, ms1, ms2, ms3, ms4, ms5, ms6, ms7, ms8, ms9, ms10, ms11, ms12, ms13, ms14, ms15, ms16, ms17, ms18, ms19, ms20, ms21, ms22, mf0, mf1, mf2, mf3, mf4, mf5, mf6, mf7, mf8, mf9, mf10, mf11, mf12, mf13, mf14, mf15, mf16, mf17, mf18, mf19, mf20, mf21, mf22, mf23, mf24, mf25, mf26, mp4, mp7, mp22, mp25, mp26, mq_0, al_I, as_I, zl_Z, zs_0, zs_1, Nat.reduceAdd, Nat.reduceLeDiff, Nat.zero_le, cat_0, cat_i, cat_r, opt_n, opt_s, true_and, nI_add, pk_mul, ua_ua, ua_s, ua_n, not_false_eq_true, Nat.reduceEqDiff, xi_n (show t < 5 by omega) (show 5 < 2147483648 by decide), e0, i10, i10n, not_true_eq_false, if_false, if_true, mz_c, xi_n (show 5 * x + t < 60 by omega) (show 60 < 2147483648 by decide), hH.2 x hx t ht, hV_n (show ¬ tH v r x t = 5 by omega), xi_n (show tH v r x t < 5 by omega) (show 5 < 2147483648 by decide), xi_n (show 5 * y + tH v r x t < 60 by omega) (show 60 < 2147483648 by decide), hH.2 y hy _ c1, hV_n (show ¬ tH v r y (tH v r x t) = 5 by omega)]
        exact ih _ _ c2 he
      · rw [if_neg hc] at he
        cases he
theorem l_f97 {x y : Nat} {l3 : Value} (h1 : 1 ≤ v) (h2 : v ≤ 5) (hp : 2 ≤ p) (hp2 : p ≤ 101) (hlo : lo < p) (hr : okR v r) (hx : x < tHn v r) (hy : y < tHn v r) (hf0 : ∀ j, j < v → f0 j = nI 0) (hS : A 1 0 = nI v ∧ A 1 1 = nI p ∧ A 1 2 = nI lo) (hH : hTab v r A) {res : Nat} (hX : ∀ f, X (some (.int (nI (lo ^ res % p)))) (mdl M (ua A 11 f) g)) : ∀ (n t c : Nat) (ms : List Nat) (l6 : Value), n + t = v → c ≤ t → fo2 v r x y n t ms c = some res → ex_W 148 97 [.ref M, .int (nI x), .int (nI y), l3, .int (nI c), .int (nI t), l6] [] (mdl M (ua A 11 (mz ms f0)) g) X := by
  intro n
  induction n with
  | zero =>
    intro t c ms l6 hn hc he
    cases he
    obtain rfl : t = v := by omega
    rw [s148_97]
    simp only [s148_0, s148_1, s148_2, s148_3, s148_5, s148_7, s148_8, s148_11, s148_12, s148_13, s148_16, s148_17, s148_20, s148_22, s148_23, s148_24, s148_27, s148_30, s148_31, s148_33, s148_35, s148_36, s148_39, s148_40, s148_41, s148_44, s148_45, s148_48, s148_49, s148_50, s148_51, s148_53, s148_54, s148_55, s148_58, s148_59, s148_60, s148_61, s148_63, s148_66, s148_69, s148_70, s148_73, s148_74, s148_77, s148_78, s148_79, s148_82, s148_85, s148_86, s148_89, s148_90, s148_91, s148_92, s148_94, s148_95, s148_99, s148_100, s148_103, s148_104, s148_105, s148_108, s148_109, s148_112, s148_114, s148_115, s148_118, s148_121, s148_123, s148_126, s148_129, s148_131, s148_132, s148_135, s148_136, s148_139, s148_141, s148_142, s148_143, s148_144, s148_147, s148_148, s148_151, s148_152, s148_153, s148_154, s148_156, s148_157, s148_158, s148_159, s148_160, s148_161, s148_164, s148_165, s148_166, s148_167, s148_168, s148_171, s148_172, s148_173, s148_174, s148_176, s148_177, s148_178, s148_179, s148_180, s148_182, s148_185, s148_188, s148_191, s148_192, s148_194, s148_197, mis, mg1, mg2, mg3, mg4, mg5, mg6, mg7, mg8, mg9, mg10, mg11, mg12, mg13, mg14, mg15, mg16, mg17, mg18, mg19, mg20, mg21, mg22, ms1, ms2, ms3, ms4, ms5, ms6, ms7, ms8, ms9, ms10, ms11, ms12, ms13, ms14, ms15, ms16, ms17, ms18, ms19, ms20, ms21, ms22, mf0, mf1, mf2, mf3, mf4, mf5, mf6, mf7, mf8, mf9, mf10, mf11, mf12, mf13, mf14, mf15, mf16, mf17, mf18, mf19, mf20, mf21, mf22, mf23, mf24, mf25, mf26, mp4, mp7, mp22, mp25, mp26, mq_0, al_I, as_I, zl_Z, zs_0, zs_1, Nat.reduceAdd, Nat.reduceLeDiff, Nat.zero_le, cat_0, cat_i, cat_r, opt_n, opt_s, true_and, nI_add, pk_mul, ua_ua, ua_s, ua_n, not_false_eq_true, Nat.reduceEqDiff, hS.1, xi_n (show 0 < 213 by omega) (show 213 < 2147483648 by decide)]
    rw [if_pos ((nI_l1 (by omega) (by omega)).mpr (by omega))]
    refine r_loopTimes hp hp2 (by rw [ua_n (by decide)]; exact hS.2.1) (by rw [ua_n (by decide)]; exact hS.2.2) hlo (by omega) ?_
    simp only [s148_0, s148_1, s148_2, s148_3, s148_5, s148_7, s148_8, s148_11, s148_12, s148_13, s148_16, s148_17, s148_20, s148_22, s148_23, s148_24, s148_27, s148_30, s148_31, s148_33, s148_35, s148_36, s148_39, s148_40, s148_41, s148_44, s148_45, s148_48, s148_49, s148_50, s148_51, s148_53, s148_54, s148_55, s148_58, s148_59, s148_60, s148_61, s148_63, s148_66, s148_69, s148_70, s148_73, s148_74, s148_77, s148_78, s148_79, s148_82, s148_85, s148_86, s148_89, s148_90, s148_91, s148_92, s148_94, s148_95, s148_99, s148_100, s148_103, s148_104, s148_105, s148_108, s148_109, s148_112, s148_114, s148_115, s148_118, s148_121, s148_123, s148_125, s148_126, s148_129, s148_131, s148_132, s148_135, s148_136, s148_139, s148_141, s148_142, s148_143, s148_144, s148_147, s148_148, s148_151, s148_152, s148_153, s148_154, s148_156, s148_157, s148_158, s148_159, s148_160, s148_161, s148_164, s148_165, s148_166, s148_167, s148_168, s148_171, s148_172, s148_173, s148_174, s148_176, s148_177, s148_178, s148_179, s148_180, s148_182, s148_185, s148_188, s148_191, s148_192, s148_194, s148_197, mis, mg1, mg2, mg3, mg4, mg5, mg6, mg7, mg8, mg9, mg10, mg11, mg12, mg13, mg14, mg15, mg16, mg17, mg18, mg19, mg20, mg21, mg22, ms1, ms2, ms3, ms4, ms5, ms6, ms7, ms8, ms9, ms10, ms11, ms12, ms13, ms14, ms15, ms16, ms17, ms18, ms19, ms20, ms21, ms22, mf0, mf1, mf2, mf3, mf4, mf5, mf6, mf7, mf8, mf9, mf10, mf11, mf12, mf13, mf14, mf15, mf16, mf17, mf18, mf19, mf20, mf21, mf22, mf23, mf24, mf25, mf26, mp4, mp7, mp22, mp25, mp26, mq_0, al_I, as_I, zl_Z, zs_0, zs_1, Nat.reduceAdd, Nat.reduceLeDiff, Nat.zero_le, cat_0, cat_i, cat_r, opt_n, opt_s, true_and, nI_add, pk_mul, ua_ua, ua_s, ua_n, not_false_eq_true, Nat.reduceEqDiff]
    exact hX _
  | succ n ih =>
    intro t c ms l6 hn hc he
    have ht : t < v := by omega
    rw [fo2] at he
    rw [s148_97]
    by_cases hm : t ∈ ms
    · rw [if_pos hm] at he
      have e0 : mz ms f0 t = nI 1 := if_pos hm
      simp only [s148_0, s148_1, s148_2, s148_3, s148_5, s148_7, s148_8, s148_11, s148_12, s148_13, s148_16, s148_17, s148_20, s148_22, s148_23, s148_24, s148_27, s148_30, s148_31, s148_33, s148_35, s148_36, s148_39, s148_40, s148_41, s148_44, s148_45, s148_48, s148_49, s148_50, s148_51, s148_53, s148_54, s148_55, s148_58, s148_59, s148_60, s148_61, s148_63, s148_66, s148_69, s148_70, s148_73, s148_74, s148_77, s148_78, s148_79, s148_82, s148_85, s148_86, s148_89, s148_90, s148_91, s148_92, s148_94, s148_95, s148_99, s148_100, s148_103, s148_104, s148_105, s148_108, s148_109, s148_112, s148_114, s148_115, s148_118, s148_121, s148_123, s148_126, s148_129, s148_131, s148_132, s148_135, s148_136, s148_139, s148_141, s148_142, s148_143, s148_144, s148_147, s148_148, s148_151, s148_152, s148_153, s148_154, s148_156, s148_157, s148_158, s148_159, s148_160, s148_161, s148_164, s148_165, s148_166, s148_167, s148_168, s148_171, s148_172, s148_173, s148_174, s148_176, s148_177, s148_178, s148_179, s148_180, s148_182, s148_185, s148_188, s148_191, s148_192, s148_194, s148_197, mis, mg1, mg2, mg3, mg4, mg5, mg6, mg7, mg8, mg9, mg10, mg11, mg12, mg13, mg14, mg15, mg16, mg17, mg18, mg19, mg20, mg21, mg22, ms1, ms2, ms3, ms4, ms5, ms6, ms7, ms8, ms9, ms10, ms11, ms12, ms13, ms14, ms15, ms16, ms17, ms18, ms19, ms20, ms21, ms22, mf0, mf1, mf2, mf3, mf4, mf5, mf6, mf7, mf8, mf9, mf10, mf11, mf12, mf13, mf14, mf15, mf16, mf17, mf18, mf19, mf20, mf21, mf22, mf23, mf24, mf25, mf26, mp4, mp7, mp22, mp25, mp26, mq_0, al_I, as_I, zl_Z, zs_0, zs_1, Nat.reduceAdd, Nat.reduceLeDiff, Nat.zero_le, cat_0, cat_i, cat_r, opt_n, opt_s, true_and, nI_add, pk_mul, ua_ua, ua_s, ua_n, not_false_eq_true, Nat.reduceEqDiff, hS.1, xi_n (show 0 < 213 by omega) (show 213 < 2147483648 by decide), xi_n (show t < 5 by omega) (show 5 < 2147483648 by decide), e0, i10, i10n, not_true_eq_false, if_false, if_true]
      rw [if_neg (fun z => absurd ((nI_l1 (by omega) (by omega)).mp z) (by omega))]
      exact ih (t + 1) c ms _ (by omega) (by omega) he
    · rw [if_neg hm] at he
      have e0 : mz ms f0 t = nI 0 := (if_neg hm).trans (hf0 t ht)
      cases hw : fmr v r x y 12 t ms with
      | none => rw [hw] at he; cases he
      | some ms' =>
        rw [hw] at he
        simp only [s148_0, s148_1, s148_2, s148_3, s148_5, s148_7, s148_8, s148_11, s148_12, s148_13, s148_16, s148_17, s148_20, s148_22, s148_23, s148_24, s148_27, s148_30, s148_31, s148_33, s148_35, s148_36, s148_39, s148_40, s148_41, s148_44, s148_45, s148_48, s148_49, s148_50, s148_51, s148_53, s148_54, s148_55, s148_58, s148_59, s148_60, s148_61, s148_63, s148_66, s148_69, s148_70, s148_73, s148_74, s148_77, s148_78, s148_79, s148_82, s148_85, s148_86, s148_89, s148_90, s148_91, s148_92, s148_94, s148_95, s148_99, s148_100, s148_103, s148_104, s148_105, s148_108, s148_109, s148_112, s148_114, s148_115, s148_118, s148_121, s148_123, s148_126, s148_129, s148_131, s148_132, s148_135, s148_136, s148_139, s148_141, s148_142, s148_143, s148_144, s148_147, s148_148, s148_151, s148_152, s148_153, s148_154, s148_156, s148_157, s148_158, s148_159, s148_160, s148_161, s148_164, s148_165, s148_166, s148_167, s148_168, s148_171, s148_172, s148_173, s148_174, s148_176, s148_177, s148_178, s148_179, s148_180, s148_182, s148_188, s148_191, s148_192, s148_194, s148_197, mis, mg1, mg2, mg3, mg4, mg5, mg6, mg7, mg8, mg9, mg10, mg11, mg12, mg13, mg14, mg15, mg16, mg17, mg18, mg19, mg20, mg21, mg22, ms1, ms2, ms3, ms4, ms5, ms6, ms7, ms8, ms9, ms10, ms11, ms12, ms13, ms14, ms15, ms16, ms17, ms18, ms19, ms20, ms21, ms22, mf0, mf1, mf2, mf3, mf4, mf5, mf6, mf7, mf8, mf9, mf10, mf11, mf12, mf13, mf14, mf15, mf16, mf17, mf18, mf19, mf20, mf21, mf22, mf23, mf24, mf25, mf26, mp4, mp7, mp22, mp25, mp26, mq_0, al_I, as_I, zl_Z, zs_0, zs_1, Nat.reduceAdd, Nat.reduceLeDiff, Nat.zero_le, cat_0, cat_i, cat_r, opt_n, opt_s, true_and, nI_add, pk_mul, ua_ua, ua_s, ua_n, not_false_eq_true, Nat.reduceEqDiff, hS.1, xi_n (show 0 < 213 by omega) (show 213 < 2147483648 by decide), xi_n (show t < 5 by omega) (show 5 < 2147483648 by decide), e0, i10, i10n, not_true_eq_false, if_false, if_true]
        rw [if_neg (fun z => absurd ((nI_l1 (by omega) (by omega)).mp z) (by omega))]
        refine l_f125 h1 h2 hr hx hy hf0 hH (fun l6 => ?_) 12 t ms ht hw
        simp only [s148_185, s148_188, nI_add]
        exact ih (t + 1) (c + 1) ms' _ (by omega) (by omega) he
theorem r_formOf {x y : Nat} (h1 : 1 ≤ v) (h2 : v ≤ 5) (hp : 2 ≤ p) (hp2 : p ≤ 101) (hlo : lo < p) (hr : okR v r) (hx : x < tHn v r) (hy : y < tHn v r) (hS : A 1 0 = nI v ∧ A 1 1 = nI p ∧ A 1 2 = nI lo) (hH : hTab v r A) (hX : ∀ f, X (some (.int (nI (fN v p lo r x y)))) (mdl M (ua A 11 f) g)) : ex_W 148 0 [.ref M, .int (nI x), .int (nI y), oU, oU, oU, oU] [] (mdl M A g) X := by
  obtain ⟨is, ms, q1, q2, q3⟩ := tFo h1 h2 hr hx hy
  rw [s148_0, s148_1, s148_2, s148_3]
  have := l_f5 (M := M) (A := A) (g := g) (X := X) (l1 := .int (nI x)) (l2 := .int (nI y)) (l3 := .int (nI 1)) (l5 := oU) (l6 := oU) h2 hS.1 (fun f hf => ?_) v 0 (A 11) (by omega) (fun j hj => by omega)
  · rw [ua_id] at this
    exact this
  rw [s148_30, s148_31]
  have e : mz [] f = f := by funext j; simp [mz]
  have h33 := l_f33 (M := M) (g := g) (X := X) (f0 := f) (l5 := oU) (l6 := oU) h1 h2 hr hx hy hS.1 hH (is1 := is) (mq1 := ms) ?_ v 0 true [] (by omega) q1
  · rw [e] at h33
    exact h33
  unfold fN at hX
  simp only [s148_0, s148_1, s148_2, s148_3, s148_5, s148_7, s148_8, s148_11, s148_12, s148_13, s148_16, s148_17, s148_20, s148_22, s148_23, s148_24, s148_27, s148_30, s148_31, s148_33, s148_35, s148_36, s148_39, s148_40, s148_41, s148_44, s148_45, s148_48, s148_49, s148_50, s148_51, s148_53, s148_54, s148_55, s148_58, s148_59, s148_60, s148_61, s148_63, s148_66, s148_69, s148_70, s148_73, s148_74, s148_77, s148_78, s148_79, s148_82, s148_85, s148_86, s148_89, s148_90, s148_91, s148_92, s148_94, s148_95, s148_99, s148_100, s148_103, s148_104, s148_105, s148_108, s148_109, s148_112, s148_114, s148_115, s148_118, s148_121, s148_123, s148_125, s148_126, s148_129, s148_131, s148_132, s148_135, s148_136, s148_139, s148_141, s148_142, s148_143, s148_144, s148_147, s148_148, s148_151, s148_152, s148_153, s148_154, s148_156, s148_157, s148_158, s148_159, s148_160, s148_161, s148_164, s148_165, s148_166, s148_167, s148_168, s148_171, s148_172, s148_173, s148_174, s148_176, s148_177, s148_178, s148_179, s148_180, s148_182, s148_185, s148_188, s148_191, s148_192, s148_194, s148_197, mis, mg1, mg2, mg3, mg4, mg5, mg6, mg7, mg8, mg9, mg10, mg11, mg12, mg13, mg14, mg15, mg16, mg17, mg18, mg19, mg20, mg21, mg22, ms1, ms2, ms3, ms4, ms5, ms6, ms7, ms8, ms9, ms10, ms11, ms12, ms13, ms14, ms15, ms16, ms17, ms18, ms19, ms20, ms21, ms22, mf0, mf1, mf2, mf3, mf4, mf5, mf6, mf7, mf8, mf9, mf10, mf11, mf12, mf13, mf14, mf15, mf16, mf17, mf18, mf19, mf20, mf21, mf22, mf23, mf24, mf25, mf26, mp4, mp7, mp22, mp25, mp26, mq_0, al_I, as_I, zl_Z, zs_0, zs_1, Nat.reduceAdd, Nat.reduceLeDiff, Nat.zero_le, cat_0, cat_i, cat_r, opt_n, opt_s, true_and, nI_add, pk_mul, ua_ua, ua_s, ua_n, not_false_eq_true, Nat.reduceEqDiff]
  cases is with
  | false =>
    rw [if_pos (q3 rfl)] at hX
    rw [if_neg (fun z => z rfl)]
    exact hX _
  | true =>
    obtain ⟨a1, a2⟩ := q2 rfl
    rw [if_neg (by omega)] at hX
    rw [if_pos (show ¬ bI true = nI 0 by decide)]
    exact l_f97 h1 h2 hp hp2 hlo hr hx hy hf hS hH hX v 0 0 ms _ (by omega) (by omega) a1
abbrev isC (v : Nat) (x : Int32) : Prop := isW 0 v x ∧ (v - ix x) % 2 = 0
theorem isC_e {x : Int32} (h2 : v ≤ 5) (h : isC v x) : okR v (ix x) ∧ nI (ix x) = x := by
  obtain ⟨_, q2, q3⟩ := isW_e (by decide) (by omega) h.1
  exact ⟨⟨q2, h.2⟩, q3⟩
theorem r_isCell {x : Int32} (h1 : 1 ≤ v) (h2 : v ≤ 5) (hv : A 1 0 = nI v) : ex_W 149 0 [.ref M, .int x] [] (mdl M A g) X ↔ X (some (.int (if isC v x then nI 1 else nI 0))) (mdl M A g) := by
  by_cases hx : isW 0 v x
  · obtain ⟨_, q2, q3⟩ := isW_e (by decide) (by omega) hx
    simp only [s149_0, s149_1, s149_2, s149_3, s149_6, s149_7, s149_8, s149_11, s149_14, s149_15, s149_18, s149_19, s149_20, s149_21, s149_22, s149_23, s149_24, s149_27, s149_28, s149_31, s149_32, mis, mg1, mg2, mg3, mg4, mg5, mg6, mg7, mg8, mg9, mg10, mg11, mg12, mg13, mg14, mg15, mg16, mg17, mg18, mg19, mg20, mg21, mg22, ms1, ms2, ms3, ms4, ms5, ms6, ms7, ms8, ms9, ms10, ms11, ms12, ms13, ms14, ms15, ms16, ms17, ms18, ms19, ms20, ms21, ms22, mf0, mf1, mf2, mf3, mf4, mf5, mf6, mf7, mf8, mf9, mf10, mf11, mf12, mf13, mf14, mf15, mf16, mf17, mf18, mf19, mf20, mf21, mf22, mf23, mf24, mf25, mf26, mp4, mp7, mp22, mp25, mp26, mq_0, al_I, as_I, zl_Z, zs_0, zs_1, Nat.reduceAdd, Nat.reduceLeDiff, Nat.zero_le, cat_0, cat_i, cat_r, opt_n, opt_s, true_and, nI_add, pk_mul, ua_ua, ua_s, ua_n, not_false_eq_true, Nat.reduceEqDiff, hv, xi_n (show 0 < 213 by omega) (show 213 < 2147483648 by decide), r_inW, if_pos hx, i10, i10n, not_true_eq_false, if_false, if_true, z2]
    rw [show nI v - x = nI (v - ix x) by
      have := pk_sub q2
      rw [q3] at this
      exact this]
    rw [pk_rem (by have e : (2:Nat)^31 = 2147483648 := rfl; omega) (by decide) (by decide)]
    have hm : (v - ix x) % 2 < 2 := Nat.mod_lt _ (by decide)
    by_cases hc : (v - ix x) % 2 = 0
    · rw [if_neg (fun z => z (by rw [hc])), if_pos ⟨hx, hc⟩]
      simp
    · rw [if_pos (fun z => absurd ((nI_e (by omega) (by omega)).mp z) (by omega)), if_neg (fun z => hc z.2)]
      simp
  · simp only [s149_0, s149_1, s149_2, s149_3, s149_6, s149_7, s149_8, s149_11, s149_14, s149_15, s149_18, s149_19, s149_20, s149_21, s149_22, s149_23, s149_24, s149_27, s149_28, s149_31, s149_32, mis, mg1, mg2, mg3, mg4, mg5, mg6, mg7, mg8, mg9, mg10, mg11, mg12, mg13, mg14, mg15, mg16, mg17, mg18, mg19, mg20, mg21, mg22, ms1, ms2, ms3, ms4, ms5, ms6, ms7, ms8, ms9, ms10, ms11, ms12, ms13, ms14, ms15, ms16, ms17, ms18, ms19, ms20, ms21, ms22, mf0, mf1, mf2, mf3, mf4, mf5, mf6, mf7, mf8, mf9, mf10, mf11, mf12, mf13, mf14, mf15, mf16, mf17, mf18, mf19, mf20, mf21, mf22, mf23, mf24, mf25, mf26, mp4, mp7, mp22, mp25, mp26, mq_0, al_I, as_I, zl_Z, zs_0, zs_1, Nat.reduceAdd, Nat.reduceLeDiff, Nat.zero_le, cat_0, cat_i, cat_r, opt_n, opt_s, true_and, nI_add, pk_mul, ua_ua, ua_s, ua_n, not_false_eq_true, Nat.reduceEqDiff, hv, xi_n (show 0 < 213 by omega) (show 213 < 2147483648 by decide), r_inW, if_neg hx, i10, i10n, not_true_eq_false, if_false, if_true]
    rw [if_neg (fun z => hx z.1)]
    simp
def aFo (v p lo : Nat) (x y z : Int32) : Int32 := if isC v x then (if isW 0 (tHn v (ix x) - 1) y ∧ isW 0 (tHn v (ix x) - 1) z then nI (fN v p lo (ix x) (ix y) (ix z)) else -2) else -2
theorem r_form {x y z : Int32} (h1 : 1 ≤ v) (h2 : v ≤ 5) (hp : 2 ≤ p) (hp2 : p ≤ 101) (hlo : lo < p) (hS : A 1 0 = nI v ∧ A 1 1 = nI p ∧ A 1 2 = nI lo) (hX : ∀ B, mKeep A B → X (some (.int (aFo v p lo x y z))) (mdl M B g)) : ex_W 155 0 [.ref M, .int x, .int y, .int z] [] (mdl M A g) X := by
  unfold aFo at hX
  by_cases hx : isC v x
  · obtain ⟨hr, x3⟩ := isC_e h2 hx
    obtain ⟨_, _, k2, k3⟩ := tHf0 h1 h2 hr
    rw [if_pos hx] at hX
    simp only [s155_0, s155_1, s155_2, s155_5, s155_8, s155_10, s155_11, s155_12, s155_13, s155_16, s155_17, s155_18, s155_19, s155_22, s155_23, s155_24, s155_27, s155_30, s155_31, s155_32, s155_33, s155_36, s155_37, s155_38, s155_41, s155_44, s155_45, s155_46, s155_47, s155_50, s155_53, s155_55, mis, mg1, mg2, mg3, mg4, mg5, mg6, mg7, mg8, mg9, mg10, mg11, mg12, mg13, mg14, mg15, mg16, mg17, mg18, mg19, mg20, mg21, mg22, ms1, ms2, ms3, ms4, ms5, ms6, ms7, ms8, ms9, ms10, ms11, ms12, ms13, ms14, ms15, ms16, ms17, ms18, ms19, ms20, ms21, ms22, mf0, mf1, mf2, mf3, mf4, mf5, mf6, mf7, mf8, mf9, mf10, mf11, mf12, mf13, mf14, mf15, mf16, mf17, mf18, mf19, mf20, mf21, mf22, mf23, mf24, mf25, mf26, mp4, mp7, mp22, mp25, mp26, mq_0, al_I, as_I, zl_Z, zs_0, zs_1, Nat.reduceAdd, Nat.reduceLeDiff, Nat.zero_le, cat_0, cat_i, cat_r, opt_n, opt_s, true_and, nI_add, pk_mul, ua_ua, ua_s, ua_n, not_false_eq_true, Nat.reduceEqDiff, r_isCell h1 h2 hS.1, if_pos hx, i10, i10n, not_true_eq_false, if_false, if_true]
    rw [← x3]
    refine r_layHalves h1 h2 hr hS.1 (fun B hB hH => ?_)
    simp only [s155_0, s155_1, s155_2, s155_5, s155_8, s155_10, s155_11, s155_12, s155_13, s155_16, s155_17, s155_18, s155_19, s155_22, s155_23, s155_24, s155_27, s155_30, s155_31, s155_32, s155_33, s155_36, s155_37, s155_38, s155_41, s155_44, s155_45, s155_46, s155_47, s155_50, s155_53, s155_55, mis, mg1, mg2, mg3, mg4, mg5, mg6, mg7, mg8, mg9, mg10, mg11, mg12, mg13, mg14, mg15, mg16, mg17, mg18, mg19, mg20, mg21, mg22, ms1, ms2, ms3, ms4, ms5, ms6, ms7, ms8, ms9, ms10, ms11, ms12, ms13, ms14, ms15, ms16, ms17, ms18, ms19, ms20, ms21, ms22, mf0, mf1, mf2, mf3, mf4, mf5, mf6, mf7, mf8, mf9, mf10, mf11, mf12, mf13, mf14, mf15, mf16, mf17, mf18, mf19, mf20, mf21, mf22, mf23, mf24, mf25, mf26, mp4, mp7, mp22, mp25, mp26, mq_0, al_I, as_I, zl_Z, zs_0, zs_1, Nat.reduceAdd, Nat.reduceLeDiff, Nat.zero_le, cat_0, cat_i, cat_r, opt_n, opt_s, true_and, nI_add, pk_mul, ua_ua, ua_s, ua_n, not_false_eq_true, Nat.reduceEqDiff, hH.1, pk_sub k2, r_inW]
    by_cases hy : isW 0 (tHn v (ix x) - 1) y
    · by_cases hz : isW 0 (tHn v (ix x) - 1) z
      · obtain ⟨_, y2, y3⟩ := isW_e (by decide) (by omega) hy
        obtain ⟨_, z2, z3⟩ := isW_e (by decide) (by omega) hz
        rw [if_pos ⟨hy, hz⟩] at hX
        simp only [if_pos hy, if_pos hz, i10, i10n, not_true_eq_false, if_false, if_true]
        rw [← y3, ← z3]
        refine r_formOf h1 h2 hp hp2 hlo hr (by omega) (by omega) ?_ hH (fun f => ?_)
        · rw [hB.one]; exact hS
        · simp only [s155_0, s155_1, s155_2, s155_5, s155_8, s155_10, s155_11, s155_12, s155_13, s155_16, s155_17, s155_18, s155_19, s155_22, s155_23, s155_24, s155_27, s155_30, s155_31, s155_32, s155_33, s155_36, s155_37, s155_38, s155_41, s155_44, s155_45, s155_46, s155_47, s155_50, s155_53, s155_55, mis, mg1, mg2, mg3, mg4, mg5, mg6, mg7, mg8, mg9, mg10, mg11, mg12, mg13, mg14, mg15, mg16, mg17, mg18, mg19, mg20, mg21, mg22, ms1, ms2, ms3, ms4, ms5, ms6, ms7, ms8, ms9, ms10, ms11, ms12, ms13, ms14, ms15, ms16, ms17, ms18, ms19, ms20, ms21, ms22, mf0, mf1, mf2, mf3, mf4, mf5, mf6, mf7, mf8, mf9, mf10, mf11, mf12, mf13, mf14, mf15, mf16, mf17, mf18, mf19, mf20, mf21, mf22, mf23, mf24, mf25, mf26, mp4, mp7, mp22, mp25, mp26, mq_0, al_I, as_I, zl_Z, zs_0, zs_1, Nat.reduceAdd, Nat.reduceLeDiff, Nat.zero_le, cat_0, cat_i, cat_r, opt_n, opt_s, true_and, nI_add, pk_mul, ua_ua, ua_s, ua_n, not_false_eq_true, Nat.reduceEqDiff]
          exact hX _ (hB.uk (by decide))
      · rw [if_neg (fun q => hz q.2)] at hX
        simp only [if_pos hy, if_neg hz, i10, i10n, not_true_eq_false, if_false, if_true]
        exact hX B hB
    · rw [if_neg (fun q => hy q.1)] at hX
      simp only [if_neg hy, i10, i10n, not_true_eq_false, if_false, if_true]
      exact hX B hB
  · rw [if_neg hx] at hX
    simp only [s155_0, s155_1, s155_2, s155_5, s155_8, s155_10, s155_11, s155_12, s155_13, s155_16, s155_17, s155_18, s155_19, s155_22, s155_23, s155_24, s155_27, s155_30, s155_31, s155_32, s155_33, s155_36, s155_37, s155_38, s155_41, s155_44, s155_45, s155_46, s155_47, s155_50, s155_53, s155_55, mis, mg1, mg2, mg3, mg4, mg5, mg6, mg7, mg8, mg9, mg10, mg11, mg12, mg13, mg14, mg15, mg16, mg17, mg18, mg19, mg20, mg21, mg22, ms1, ms2, ms3, ms4, ms5, ms6, ms7, ms8, ms9, ms10, ms11, ms12, ms13, ms14, ms15, ms16, ms17, ms18, ms19, ms20, ms21, ms22, mf0, mf1, mf2, mf3, mf4, mf5, mf6, mf7, mf8, mf9, mf10, mf11, mf12, mf13, mf14, mf15, mf16, mf17, mf18, mf19, mf20, mf21, mf22, mf23, mf24, mf25, mf26, mp4, mp7, mp22, mp25, mp26, mq_0, al_I, as_I, zl_Z, zs_0, zs_1, Nat.reduceAdd, Nat.reduceLeDiff, Nat.zero_le, cat_0, cat_i, cat_r, opt_n, opt_s, true_and, nI_add, pk_mul, ua_ua, ua_s, ua_n, not_false_eq_true, Nat.reduceEqDiff, r_isCell h1 h2 hS.1, if_neg hx, i10, i10n, not_true_eq_false, if_false, if_true]
    exact hX A mKeep.rfl'
end M13
