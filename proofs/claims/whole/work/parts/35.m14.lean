/-! THE REFERENCE: the table of a cell -/
def swp (T : Nat → Nat → Nat) (i j : Nat) : Nat → Nat → Nat := fun a k => if a = i then T j k else if a = j then T i k else T a k
def fdr (T : Nat → Nat → Nat) (col : Nat) : Nat → Nat → Option Nat
  | 0, _ => none
  | m + 1, i => if T i col ≠ 0 then some i else fdr T col m (i + 1)
def nwT (p at' w col : Nat) (T : Nat → Nat → Nat) (a k : Nat) : Nat := (T a k + p - (T a col * w % p) * T at' k % p) % p
def clrT (p at' w col : Nat) (T : Nat → Nat → Nat) : Nat → Nat → Nat := fun a k => if at' < a then nwT p at' w col T a k else T a k
def stE (p n col : Nat) (x : (Nat → Nat → Nat) × Nat × Nat) : (Nat → Nat → Nat) × Nat × Nat := match fdr x.1 col (n - x.2.1) x.2.1 with
  | none => (x.1, x.2.1, 0)
  | some f => (clrT p x.2.1 (iv p (swp x.1 x.2.1 f x.2.1 col)) col (swp x.1 x.2.1 f), x.2.1 + 1, (if x.2.1 = f then x.2.2 else (0 + p - x.2.2) % p) * swp x.1 x.2.1 f x.2.1 col % p)
def elm (p n : Nat) : Nat → Nat → (Nat → Nat → Nat) × Nat × Nat → (Nat → Nat → Nat) × Nat × Nat
  | 0, _, x => x
  | m + 1, col, x => elm p n m (col + 1) (stE p n col x)
def elmR (v p lo r : Nat) : (Nat → Nat → Nat) × Nat × Nat := elm p (tHn v r) (tHn v r) 0 (fN v p lo r, 0, 1)
theorem fdr_ok {T : Nat → Nat → Nat} {col : Nat} : ∀ (m i f : Nat), fdr T col m i = some f → i ≤ f ∧ f < i + m ∧ T f col ≠ 0 := by
  intro m
  induction m with
  | zero => intro i f h; cases h
  | succ m ih =>
    intro i f h
    rw [fdr] at h
    split at h
    · cases h
      rename_i hc
      exact ⟨by omega, by omega, hc⟩
    · obtain ⟨a, b, c⟩ := ih (i + 1) f h
      exact ⟨by omega, by omega, c⟩
theorem fN_lt {v p lo r i j : Nat} (hp : 2 ≤ p) : fN v p lo r i j < p := by
  unfold fN
  split
  · omega
  · exact Nat.mod_lt _ (by omega)
theorem swp_lt {p i j : Nat} {T : Nat → Nat → Nat} (h : ∀ a k, T a k < p) : ∀ a k, swp T i j a k < p := fun a k => by
  unfold swp
  split
  · exact h _ _
  · split <;> exact h _ _
theorem clrT_lt {p at' w col : Nat} {T : Nat → Nat → Nat} (hp : 2 ≤ p) (h : ∀ a k, T a k < p) : ∀ a k, clrT p at' w col T a k < p := fun a k => by
  unfold clrT nwT
  split
  · exact Nat.mod_lt _ (by omega)
  · exact h _ _
section M14
variable {M : Nat} {A : Nat → Nat → Int32} {g h : ex_Hp} {X : Option Value → ex_Hp → Prop} {v a b d p lo s r : Nat} {f0 : Nat → Int32} {S : Nat → Nat → Nat} {A0 : Nat → Nat → Int32}
theorem mq_00 {f1 f2 : Nat → Int32} : ex_set (mdl M (ua A 0 f1) g) M (mObj M (ua A 0 f2)) = mdl M (ua A 0 f2) g := by
  rw [← ua_ua (k := 0) (f := f1) (f2 := f2)]
  exact mq_0
def isT (n : Nat) (T : Nat → Nat → Nat) (f : Nat → Int32) : Prop := ∀ i, i < n → ∀ k, k < n → f (12 * i + k) = nI (T i k)
theorem l_sw {T : Nat → Nat → Nat} {n0 i j : Nat} (hn5 : n0 ≤ 5) (h0 : A 0 2 = nI n0) (hi : i < n0) (hj : j < n0) (hX : ∀ f l4, isT n0 (swp T i j) f → ex_W 150 64 [.ref M, .int (nI i), .int (nI j), .int (nI n0), l4] [] (mdl M (ua A 22 f) g) X) : ∀ (n t : Nat) (f : Nat → Int32) (l4 : Value), n + t = n0 → isT n0 (fun a k => if k < t then swp T i j a k else T a k) f → ex_W 150 2 [.ref M, .int (nI i), .int (nI j), .int (nI t), l4] [] (mdl M (ua A 22 f) g) X := by
  intro n
  induction n with
  | zero =>
    intro t f l4 hn hf
    obtain rfl : t = n0 := by omega
    rw [s150_2]
    simp only [s150_0, s150_1, s150_3, s150_4, s150_7, s150_10, s150_11, s150_14, s150_16, s150_17, s150_18, s150_19, s150_20, s150_21, s150_23, s150_24, s150_27, s150_29, s150_30, s150_31, s150_32, s150_33, s150_34, s150_37, s150_39, s150_40, s150_41, s150_42, s150_43, s150_44, s150_45, s150_46, s150_49, s150_51, s150_52, s150_53, s150_54, s150_55, s150_57, s150_58, s150_61, s150_65, s150_66, s150_67, s150_70, s150_71, s150_74, s150_77, s150_78, s150_79, s150_82, s150_83, s150_86, s150_89, mis, mg1, mg2, mg3, mg4, mg5, mg6, mg7, mg8, mg9, mg10, mg11, mg12, mg13, mg14, mg15, mg16, mg17, mg18, mg19, mg20, mg21, mg22, ms1, ms2, ms3, ms4, ms5, ms6, ms7, ms8, ms9, ms10, ms11, ms12, ms13, ms14, ms15, ms16, ms17, ms18, ms19, ms20, ms21, ms22, mf0, mf1, mf2, mf3, mf4, mf5, mf6, mf7, mf8, mf9, mf10, mf11, mf12, mf13, mf14, mf15, mf16, mf17, mf18, mf19, mf20, mf21, mf22, mf23, mf24, mf25, mf26, mp4, mp7, mp22, mp25, mp26, mq_0, al_I, as_I, zl_Z, zs_0, zs_1, Nat.reduceAdd, Nat.reduceLeDiff, Nat.zero_le, cat_0, cat_i, cat_r, opt_n, opt_s, true_and, nI_add, pk_mul, ua_ua, ua_s, ua_n, not_false_eq_true, Nat.reduceEqDiff, h0]
    rw [if_pos ((nI_l1 (by omega) (by omega)).mpr (by omega))]
    refine hX f l4 (fun a ha k hk => ?_)
    try dsimp only
    rw [hf a ha k hk]
    try dsimp only
    rw [if_pos hk]
  | succ n ih =>
    intro t f l4 hn hf
    rw [s150_2]
    simp only [s150_0, s150_1, s150_3, s150_4, s150_7, s150_10, s150_11, s150_14, s150_16, s150_17, s150_18, s150_19, s150_20, s150_21, s150_23, s150_24, s150_27, s150_29, s150_30, s150_31, s150_32, s150_33, s150_34, s150_37, s150_39, s150_40, s150_41, s150_42, s150_43, s150_44, s150_45, s150_46, s150_49, s150_51, s150_52, s150_53, s150_54, s150_55, s150_57, s150_58, s150_61, s150_65, s150_66, s150_67, s150_70, s150_71, s150_74, s150_77, s150_78, s150_79, s150_82, s150_83, s150_86, s150_89, mis, mg1, mg2, mg3, mg4, mg5, mg6, mg7, mg8, mg9, mg10, mg11, mg12, mg13, mg14, mg15, mg16, mg17, mg18, mg19, mg20, mg21, mg22, ms1, ms2, ms3, ms4, ms5, ms6, ms7, ms8, ms9, ms10, ms11, ms12, ms13, ms14, ms15, ms16, ms17, ms18, ms19, ms20, ms21, ms22, mf0, mf1, mf2, mf3, mf4, mf5, mf6, mf7, mf8, mf9, mf10, mf11, mf12, mf13, mf14, mf15, mf16, mf17, mf18, mf19, mf20, mf21, mf22, mf23, mf24, mf25, mf26, mp4, mp7, mp22, mp25, mp26, mq_0, al_I, as_I, zl_Z, zs_0, zs_1, Nat.reduceAdd, Nat.reduceLeDiff, Nat.zero_le, cat_0, cat_i, cat_r, opt_n, opt_s, true_and, nI_add, pk_mul, ua_ua, ua_s, ua_n, not_false_eq_true, Nat.reduceEqDiff, h0, xi_n (show 12 * i + t < 144 by omega) (show 144 < 2147483648 by decide), xi_n (show 12 * j + t < 144 by omega) (show 144 < 2147483648 by decide)]
    rw [if_neg (fun z => absurd ((nI_l1 (by omega) (by omega)).mp z) (by omega))]
    refine ih (t + 1) _ _ (by omega) (fun a ha k hk => ?_)
    try dsimp only
    have e1 := hf i hi t (by omega)
    have e2 := hf j hj t (by omega)
    try dsimp only at e1 e2
    rw [if_neg (by omega)] at e1 e2
    by_cases c1 : 12 * a + k = 12 * j + t
    · obtain ⟨rfl, rfl⟩ : a = j ∧ k = t := by omega
      rw [pk_us, e1, if_pos (by omega)]
      unfold swp
      by_cases hc : a = i
      · rw [if_pos hc, hc]
      · rw [if_neg hc, if_pos rfl]
    · rw [pk_un c1]
      by_cases c2 : 12 * a + k = 12 * i + t
      · obtain ⟨rfl, rfl⟩ : a = i ∧ k = t := by omega
        rw [pk_us, e2, if_pos (by omega)]
        unfold swp
        rw [if_pos rfl]
      · try dsimp only
        rw [pk_un c2, hf a ha k hk]
        try dsimp only
        by_cases c3 : k < t
        · rw [if_pos c3, if_pos (by omega)]
        · rw [if_neg c3]
          by_cases c4 : k < t + 1
          · rw [if_pos c4]
            unfold swp
            rw [if_neg (by omega), if_neg (by omega)]
          · rw [if_neg c4]
theorem r_swapRows {T : Nat → Nat → Nat} {n0 i j dt : Nat} (hp : 2 ≤ p) (hp2 : p ≤ 101) (hp1 : A 1 1 = nI p) (hn5 : n0 ≤ 5) (h0 : A 0 2 = nI n0) (hi : i < n0) (hj : j < n0) (hT : isT n0 T (A 22)) (hd : A 0 4 = nI dt) (hdt : dt < p) (hX : ∀ f, isT n0 (swp T i j) f → X none (mdl M (ua (ua A 22 f) 0 (upd (A 0) 4 (nI (if i = j then dt else (0 + p - dt) % p)))) g)) : ex_W 150 0 [.ref M, .int (nI i), .int (nI j), oU, oU] [] (mdl M A g) X := by
  rw [s150_0, s150_1]
  have := l_sw (M := M) (A := A) (g := g) (X := X) (T := T) hn5 h0 hi hj (fun f l4 hf => ?_) n0 0 (A 22) oU (by omega) (fun a ha k hk => (hT a ha k hk).trans (congrArg nI (if_neg (by omega)).symm))
  · rw [ua_id] at this
    exact this
  have hp1' : (ua A 22 f) 1 1 = nI p := by rw [ua_n (by decide)]; exact hp1
  have hX := hX f hf
  simp only [s150_0, s150_1, s150_3, s150_4, s150_7, s150_10, s150_11, s150_14, s150_16, s150_17, s150_18, s150_19, s150_20, s150_21, s150_23, s150_24, s150_27, s150_29, s150_30, s150_31, s150_32, s150_33, s150_34, s150_37, s150_39, s150_40, s150_41, s150_42, s150_43, s150_44, s150_45, s150_46, s150_49, s150_51, s150_52, s150_53, s150_54, s150_55, s150_57, s150_58, s150_61, s150_64, s150_65, s150_66, s150_67, s150_70, s150_71, s150_74, s150_77, s150_78, s150_79, s150_82, s150_83, s150_86, s150_89, mis, mg1, mg2, mg3, mg4, mg5, mg6, mg7, mg8, mg9, mg10, mg11, mg12, mg13, mg14, mg15, mg16, mg17, mg18, mg19, mg20, mg21, mg22, ms1, ms2, ms3, ms4, ms5, ms6, ms7, ms8, ms9, ms10, ms11, ms12, ms13, ms14, ms15, ms16, ms17, ms18, ms19, ms20, ms21, ms22, mf0, mf1, mf2, mf3, mf4, mf5, mf6, mf7, mf8, mf9, mf10, mf11, mf12, mf13, mf14, mf15, mf16, mf17, mf18, mf19, mf20, mf21, mf22, mf23, mf24, mf25, mf26, mp4, mp7, mp22, mp25, mp26, mq_0, al_I, as_I, zl_Z, zs_0, zs_1, Nat.reduceAdd, Nat.reduceLeDiff, Nat.zero_le, cat_0, cat_i, cat_r, opt_n, opt_s, true_and, nI_add, pk_mul, ua_ua, ua_s, ua_n, not_false_eq_true, Nat.reduceEqDiff, hd, r_by hp hp2 hp1']
  by_cases hc : i = j
  · rw [if_pos hc] at hX
    rw [if_neg (fun z => z (by rw [hc]))]
    exact hX
  · rw [if_neg hc] at hX
    rw [if_pos (fun z => absurd ((nI_e (by omega) (by omega)).mp z) (by omega)), show -(nI dt) = nI 0 - nI dt by rw [nI_0, Int32.zero_sub], nF_s hp (by omega) (by omega) (by omega)]
    exact hX
theorem r_rowWith {T : Nat → Nat → Nat} {n0 col from' : Nat} (hn5 : n0 ≤ 5) (h0 : A 0 2 = nI n0) (hc : col < n0) (hT : isT n0 T (A 22)) (hTl : ∀ a k, T a k < 1000) : ∀ (n t : Nat), n + t = n0 → X (some (.int (match fdr T col n t with | some f => nI f | none => -6))) (mdl M A g) → ex_W 151 2 [.ref M, .int (nI col), .int (nI from'), .int (nI t)] [] (mdl M A g) X := by
  intro n
  induction n with
  | zero =>
    intro t hn hX
    rw [s151_2]
    simp only [s151_0, s151_1, s151_3, s151_4, s151_7, s151_10, s151_11, s151_14, s151_16, s151_17, s151_18, s151_19, s151_20, s151_21, s151_24, s151_25, s151_26, s151_29, s151_32, s151_34, mis, mg1, mg2, mg3, mg4, mg5, mg6, mg7, mg8, mg9, mg10, mg11, mg12, mg13, mg14, mg15, mg16, mg17, mg18, mg19, mg20, mg21, mg22, ms1, ms2, ms3, ms4, ms5, ms6, ms7, ms8, ms9, ms10, ms11, ms12, ms13, ms14, ms15, ms16, ms17, ms18, ms19, ms20, ms21, ms22, mf0, mf1, mf2, mf3, mf4, mf5, mf6, mf7, mf8, mf9, mf10, mf11, mf12, mf13, mf14, mf15, mf16, mf17, mf18, mf19, mf20, mf21, mf22, mf23, mf24, mf25, mf26, mp4, mp7, mp22, mp25, mp26, mq_0, al_I, as_I, zl_Z, zs_0, zs_1, Nat.reduceAdd, Nat.reduceLeDiff, Nat.zero_le, cat_0, cat_i, cat_r, opt_n, opt_s, true_and, nI_add, pk_mul, ua_ua, ua_s, ua_n, not_false_eq_true, Nat.reduceEqDiff, h0]
    rw [if_pos ((nI_l1 (by omega) (by omega)).mpr (by omega))]
    exact hX
  | succ n ih =>
    intro t hn hX
    have hl := hTl t col
    rw [fdr] at hX
    rw [s151_2]
    simp only [s151_0, s151_1, s151_3, s151_4, s151_7, s151_10, s151_11, s151_14, s151_16, s151_17, s151_18, s151_19, s151_20, s151_21, s151_24, s151_25, s151_26, s151_29, s151_32, s151_34, mis, mg1, mg2, mg3, mg4, mg5, mg6, mg7, mg8, mg9, mg10, mg11, mg12, mg13, mg14, mg15, mg16, mg17, mg18, mg19, mg20, mg21, mg22, ms1, ms2, ms3, ms4, ms5, ms6, ms7, ms8, ms9, ms10, ms11, ms12, ms13, ms14, ms15, ms16, ms17, ms18, ms19, ms20, ms21, ms22, mf0, mf1, mf2, mf3, mf4, mf5, mf6, mf7, mf8, mf9, mf10, mf11, mf12, mf13, mf14, mf15, mf16, mf17, mf18, mf19, mf20, mf21, mf22, mf23, mf24, mf25, mf26, mp4, mp7, mp22, mp25, mp26, mq_0, al_I, as_I, zl_Z, zs_0, zs_1, Nat.reduceAdd, Nat.reduceLeDiff, Nat.zero_le, cat_0, cat_i, cat_r, opt_n, opt_s, true_and, nI_add, pk_mul, ua_ua, ua_s, ua_n, not_false_eq_true, Nat.reduceEqDiff, h0, xi_n (show 12 * t + col < 144 by omega) (show 144 < 2147483648 by decide), hT t (by omega) col hc]
    rw [if_neg (fun z => absurd ((nI_l1 (by omega) (by omega)).mp z) (by omega))]
    by_cases hz : T t col ≠ 0
    · rw [if_pos hz] at hX
      rw [if_neg (fun z => absurd ((nI_e (by omega) (by omega)).mp z) (by omega))]
      exact hX
    · rw [if_neg hz] at hX
      rw [if_pos (by rw [Decidable.not_not.mp hz])]
      exact ih (t + 1) (by omega) hX
theorem l_cb53 {T : Nat → Nat → Nat} {n0 at' i sh : Nat} {l2 l3 : Value} (hp : 2 ≤ p) (hp2 : p ≤ 101) (hp1 : A 1 1 = nI p) (hn5 : n0 ≤ 5) (h0 : A 0 2 = nI n0) (hat : at' < i) (hi : i < n0) (hsh : sh < p) (hTl : ∀ a k, T a k < p) (hX : ∀ f l6, isT n0 (fun a k => if a = i then (T a k + p - sh * T at' k % p) % p else T a k) f → ex_W 152 114 [.ref M, .int (nI at'), l2, l3, .int (nI i), .int (nI sh), l6] [] (mdl M (ua A 22 f) g) X) : ∀ (n t : Nat) (f : Nat → Int32), n + t = n0 → isT n0 (fun a k => if a = i ∧ k < t then (T a k + p - sh * T at' k % p) % p else T a k) f → ex_W 152 53 [.ref M, .int (nI at'), l2, l3, .int (nI i), .int (nI sh), .int (nI t)] [] (mdl M (ua A 22 f) g) X := by
  intro n
  induction n with
  | zero =>
    intro t f hn hf
    obtain rfl : t = n0 := by omega
    rw [s152_53]
    simp only [s152_0, s152_1, s152_2, s152_5, s152_7, s152_8, s152_9, s152_10, s152_11, s152_12, s152_15, s152_16, s152_17, s152_18, s152_19, s152_21, s152_23, s152_24, s152_27, s152_30, s152_31, s152_32, s152_35, s152_37, s152_39, s152_40, s152_41, s152_42, s152_43, s152_44, s152_45, s152_48, s152_50, s152_51, s152_55, s152_56, s152_59, s152_62, s152_63, s152_66, s152_68, s152_70, s152_71, s152_73, s152_74, s152_75, s152_76, s152_79, s152_81, s152_83, s152_84, s152_86, s152_87, s152_88, s152_90, s152_91, s152_94, s152_96, s152_97, s152_98, s152_100, s152_101, s152_102, s152_103, s152_104, s152_107, s152_108, s152_111, s152_117, s152_120, mis, mg1, mg2, mg3, mg4, mg5, mg6, mg7, mg8, mg9, mg10, mg11, mg12, mg13, mg14, mg15, mg16, mg17, mg18, mg19, mg20, mg21, mg22, ms1, ms2, ms3, ms4, ms5, ms6, ms7, ms8, ms9, ms10, ms11, ms12, ms13, ms14, ms15, ms16, ms17, ms18, ms19, ms20, ms21, ms22, mf0, mf1, mf2, mf3, mf4, mf5, mf6, mf7, mf8, mf9, mf10, mf11, mf12, mf13, mf14, mf15, mf16, mf17, mf18, mf19, mf20, mf21, mf22, mf23, mf24, mf25, mf26, mp4, mp7, mp22, mp25, mp26, mq_0, al_I, as_I, zl_Z, zs_0, zs_1, Nat.reduceAdd, Nat.reduceLeDiff, Nat.zero_le, cat_0, cat_i, cat_r, opt_n, opt_s, true_and, nI_add, pk_mul, ua_ua, ua_s, ua_n, not_false_eq_true, Nat.reduceEqDiff, h0]
    rw [if_pos ((nI_l1 (by omega) (by omega)).mpr (by omega))]
    refine hX f _ (fun a ha k hk => ?_)
    try dsimp only
    rw [hf a ha k hk]
    try dsimp only
    by_cases hc : a = i
    · rw [if_pos ⟨hc, hk⟩, if_pos hc]
    · rw [if_neg (fun z => hc z.1), if_neg hc]
  | succ n ih =>
    intro t f hn hf
    have e1 := hf i hi t (by omega)
    try dsimp only at e1
    rw [if_neg (by omega)] at e1
    have e2 := hf at' (by omega) t (by omega)
    try dsimp only at e2
    rw [if_neg (by omega)] at e2
    have q1 := hTl i t
    have q2 := hTl at' t
    have b1 : sh * T at' t < 1073741824 := by
      have : sh * T at' t ≤ 101 * 101 := Nat.mul_le_mul (by omega) (by omega)
      omega
    have hp1' : (ua A 22 f) 1 1 = nI p := by rw [ua_n (by decide)]; exact hp1
    rw [s152_53]
    simp only [s152_0, s152_1, s152_2, s152_5, s152_7, s152_8, s152_9, s152_10, s152_11, s152_12, s152_15, s152_16, s152_17, s152_18, s152_19, s152_21, s152_23, s152_24, s152_27, s152_30, s152_31, s152_32, s152_35, s152_37, s152_39, s152_40, s152_41, s152_42, s152_43, s152_44, s152_45, s152_48, s152_50, s152_51, s152_55, s152_56, s152_59, s152_62, s152_63, s152_66, s152_68, s152_70, s152_71, s152_73, s152_74, s152_75, s152_76, s152_79, s152_81, s152_83, s152_84, s152_86, s152_87, s152_88, s152_90, s152_91, s152_94, s152_96, s152_97, s152_98, s152_100, s152_101, s152_102, s152_103, s152_104, s152_107, s152_108, s152_111, s152_117, s152_120, mis, mg1, mg2, mg3, mg4, mg5, mg6, mg7, mg8, mg9, mg10, mg11, mg12, mg13, mg14, mg15, mg16, mg17, mg18, mg19, mg20, mg21, mg22, ms1, ms2, ms3, ms4, ms5, ms6, ms7, ms8, ms9, ms10, ms11, ms12, ms13, ms14, ms15, ms16, ms17, ms18, ms19, ms20, ms21, ms22, mf0, mf1, mf2, mf3, mf4, mf5, mf6, mf7, mf8, mf9, mf10, mf11, mf12, mf13, mf14, mf15, mf16, mf17, mf18, mf19, mf20, mf21, mf22, mf23, mf24, mf25, mf26, mp4, mp7, mp22, mp25, mp26, mq_0, al_I, as_I, zl_Z, zs_0, zs_1, Nat.reduceAdd, Nat.reduceLeDiff, Nat.zero_le, cat_0, cat_i, cat_r, opt_n, opt_s, true_and, nI_add, pk_mul, ua_ua, ua_s, ua_n, not_false_eq_true, Nat.reduceEqDiff, h0, xi_n (show 12 * i + t < 144 by omega) (show 144 < 2147483648 by decide), xi_n (show 12 * at' + t < 144 by omega) (show 144 < 2147483648 by decide), e1, e2, r_by hp hp2 hp1', nF_g hp hp2 (show T i t < 1073741824 by omega) b1]
    rw [if_neg (fun z => absurd ((nI_l1 (by omega) (by omega)).mp z) (by omega))]
    refine ih (t + 1) _ (by omega) (fun a ha k hk => ?_)
    try dsimp only
    by_cases c1 : 12 * a + k = 12 * i + t
    · obtain ⟨rfl, rfl⟩ : a = i ∧ k = t := by omega
      rw [pk_us, if_pos ⟨rfl, by omega⟩]
    · try dsimp only
      rw [pk_un c1, hf a ha k hk]
      try dsimp only
      by_cases c2 : a = i ∧ k < t
      · rw [if_pos c2, if_pos ⟨c2.1, by omega⟩]
      · rw [if_neg c2, if_neg (by omega)]
theorem l_cb21 {T : Nat → Nat → Nat} {n0 at' col w : Nat} (hp : 2 ≤ p) (hp2 : p ≤ 101) (hp1 : A 1 1 = nI p) (hn5 : n0 ≤ 5) (h0 : A 0 2 = nI n0) (hat : at' < n0) (hcol : col < n0) (hw : w < p) (hTl : ∀ a k, T a k < p) (hX : ∀ f, isT n0 (clrT p at' w col T) f → X none (mdl M (ua A 22 f) g)) : ∀ (n t : Nat) (f : Nat → Int32) (l5 l6 : Value), n + t = n0 → at' < t → isT n0 (fun a k => if at' < a ∧ a < t then nwT p at' w col T a k else T a k) f → ex_W 152 21 [.ref M, .int (nI at'), .int (nI col), .int (nI w), .int (nI t), l5, l6] [] (mdl M (ua A 22 f) g) X := by
  intro n
  induction n with
  | zero =>
    intro t f l5 l6 hn ht hf
    obtain rfl : t = n0 := by omega
    rw [s152_21]
    simp only [s152_0, s152_1, s152_2, s152_5, s152_7, s152_8, s152_9, s152_10, s152_11, s152_12, s152_15, s152_16, s152_17, s152_18, s152_19, s152_23, s152_24, s152_27, s152_30, s152_31, s152_32, s152_35, s152_37, s152_39, s152_40, s152_41, s152_42, s152_43, s152_44, s152_45, s152_48, s152_50, s152_51, s152_55, s152_56, s152_59, s152_62, s152_63, s152_66, s152_68, s152_70, s152_71, s152_73, s152_74, s152_75, s152_76, s152_79, s152_81, s152_83, s152_84, s152_86, s152_87, s152_88, s152_90, s152_91, s152_94, s152_96, s152_97, s152_98, s152_100, s152_101, s152_102, s152_103, s152_104, s152_107, s152_108, s152_111, s152_114, s152_117, s152_120, mis, mg1, mg2, mg3, mg4, mg5, mg6, mg7, mg8, mg9, mg10, mg11, mg12, mg13, mg14, mg15, mg16, mg17, mg18, mg19, mg20, mg21, mg22, ms1, ms2, ms3, ms4, ms5, ms6, ms7, ms8, ms9, ms10, ms11, ms12, ms13, ms14, ms15, ms16, ms17, ms18, ms19, ms20, ms21, ms22, mf0, mf1, mf2, mf3, mf4, mf5, mf6, mf7, mf8, mf9, mf10, mf11, mf12, mf13, mf14, mf15, mf16, mf17, mf18, mf19, mf20, mf21, mf22, mf23, mf24, mf25, mf26, mp4, mp7, mp22, mp25, mp26, mq_0, al_I, as_I, zl_Z, zs_0, zs_1, Nat.reduceAdd, Nat.reduceLeDiff, Nat.zero_le, cat_0, cat_i, cat_r, opt_n, opt_s, true_and, nI_add, pk_mul, ua_ua, ua_s, ua_n, not_false_eq_true, Nat.reduceEqDiff, h0]
    rw [if_pos ((nI_l1 (by omega) (by omega)).mpr (by omega))]
    refine hX f (fun a ha k hk => ?_)
    try dsimp only
    rw [hf a ha k hk]
    try dsimp only
    unfold clrT
    by_cases hc : at' < a
    · rw [if_pos ⟨hc, ha⟩, if_pos hc]
    · rw [if_neg (fun z => hc z.1), if_neg hc]
  | succ n ih =>
    intro t f l5 l6 hn ht hf
    have e1 := hf t (by omega) col hcol
    try dsimp only at e1
    rw [if_neg (by omega)] at e1
    have q1 := hTl t col
    have b1 : T t col * w < 2147483648 := by
      have : T t col * w ≤ 101 * 101 := Nat.mul_le_mul (by omega) (by omega)
      omega
    have b2 : T t col * w % p < p := Nat.mod_lt _ (by omega)
    have hp1' : (ua A 22 f) 1 1 = nI p := by rw [ua_n (by decide)]; exact hp1
    have hl2 : ∀ a k, (if at' < a ∧ a < t then nwT p at' w col T a k else T a k) < p := fun a k => by
      split
      · exact Nat.mod_lt _ (by omega)
      · exact hTl a k
    rw [s152_21]
    simp only [s152_0, s152_1, s152_2, s152_5, s152_7, s152_8, s152_9, s152_10, s152_11, s152_12, s152_15, s152_16, s152_17, s152_18, s152_19, s152_23, s152_24, s152_27, s152_30, s152_31, s152_32, s152_35, s152_37, s152_39, s152_40, s152_41, s152_42, s152_43, s152_44, s152_45, s152_48, s152_50, s152_51, s152_55, s152_56, s152_59, s152_62, s152_63, s152_66, s152_68, s152_70, s152_71, s152_73, s152_74, s152_75, s152_76, s152_79, s152_81, s152_83, s152_84, s152_86, s152_87, s152_88, s152_90, s152_91, s152_94, s152_96, s152_97, s152_98, s152_100, s152_101, s152_102, s152_103, s152_104, s152_107, s152_108, s152_111, s152_117, s152_120, mis, mg1, mg2, mg3, mg4, mg5, mg6, mg7, mg8, mg9, mg10, mg11, mg12, mg13, mg14, mg15, mg16, mg17, mg18, mg19, mg20, mg21, mg22, ms1, ms2, ms3, ms4, ms5, ms6, ms7, ms8, ms9, ms10, ms11, ms12, ms13, ms14, ms15, ms16, ms17, ms18, ms19, ms20, ms21, ms22, mf0, mf1, mf2, mf3, mf4, mf5, mf6, mf7, mf8, mf9, mf10, mf11, mf12, mf13, mf14, mf15, mf16, mf17, mf18, mf19, mf20, mf21, mf22, mf23, mf24, mf25, mf26, mp4, mp7, mp22, mp25, mp26, mq_0, al_I, as_I, zl_Z, zs_0, zs_1, Nat.reduceAdd, Nat.reduceLeDiff, Nat.zero_le, cat_0, cat_i, cat_r, opt_n, opt_s, true_and, nI_add, pk_mul, ua_ua, ua_s, ua_n, not_false_eq_true, Nat.reduceEqDiff, h0, xi_n (show 12 * t + col < 144 by omega) (show 144 < 2147483648 by decide), e1, r_by hp hp2 hp1', nF_n hp (show p < 32768 by omega) b1]
    rw [if_neg (fun z => absurd ((nI_l1 (by omega) (by omega)).mp z) (by omega))]
    refine l_cb53 (T := fun a k => if at' < a ∧ a < t then nwT p at' w col T a k else T a k) hp hp2 hp1 hn5 h0 ht (by omega) b2 hl2 (fun f' l6 hf' => ?_) n0 0 f (by omega) (fun a ha k hk => (hf a ha k hk).trans (congrArg nI (if_neg (by omega)).symm))
    simp only [s152_114, s152_117, nI_add]
    refine ih (t + 1) f' _ _ (by omega) (by omega) (fun a ha k hk => ?_)
    try dsimp only
    try dsimp only
    rw [hf' a ha k hk]
    try dsimp only
    by_cases c1 : a = t
    · subst c1
      rw [if_pos rfl, if_neg (by omega), if_neg (by omega), if_pos (by omega)]
      rfl
    · rw [if_neg c1]
      by_cases c2 : at' < a ∧ a < t
      · rw [if_pos c2, if_pos (by omega)]
      · rw [if_neg c2, if_neg (by omega)]
theorem r_clearBelow {T : Nat → Nat → Nat} {n0 at' col : Nat} (hp : 2 ≤ p) (hp2 : p ≤ 101) (hpr : prT p = true) (hp1 : A 1 1 = nI p) (hn5 : n0 ≤ 5) (h0 : A 0 2 = nI n0) (hat : at' < n0) (hcol : col < n0) (hTl : ∀ a k, T a k < p) (hT : isT n0 T (A 22)) (hne : T at' col ≠ 0) (hX : ∀ f, isT n0 (clrT p at' (iv p (T at' col)) col T) f → X none (mdl M (ua A 22 f) g)) : ex_W 152 0 [.ref M, .int (nI at'), .int (nI col), oU, oU, oU, oU] [] (mdl M A g) X := by
  have hiv := iv_ok hp hp2 hpr (hTl at' col) hne
  simp only [s152_0, s152_1, s152_2, s152_5, s152_7, s152_8, s152_9, s152_10, s152_11, s152_12, s152_15, s152_16, s152_17, s152_18, s152_19, s152_23, s152_24, s152_27, s152_30, s152_31, s152_32, s152_35, s152_37, s152_39, s152_40, s152_41, s152_42, s152_43, s152_44, s152_45, s152_48, s152_50, s152_51, s152_55, s152_56, s152_59, s152_62, s152_63, s152_66, s152_68, s152_70, s152_71, s152_73, s152_74, s152_75, s152_76, s152_79, s152_81, s152_83, s152_84, s152_86, s152_87, s152_88, s152_90, s152_91, s152_94, s152_96, s152_97, s152_98, s152_100, s152_101, s152_102, s152_103, s152_104, s152_107, s152_108, s152_111, s152_114, s152_117, s152_120, mis, mg1, mg2, mg3, mg4, mg5, mg6, mg7, mg8, mg9, mg10, mg11, mg12, mg13, mg14, mg15, mg16, mg17, mg18, mg19, mg20, mg21, mg22, ms1, ms2, ms3, ms4, ms5, ms6, ms7, ms8, ms9, ms10, ms11, ms12, ms13, ms14, ms15, ms16, ms17, ms18, ms19, ms20, ms21, ms22, mf0, mf1, mf2, mf3, mf4, mf5, mf6, mf7, mf8, mf9, mf10, mf11, mf12, mf13, mf14, mf15, mf16, mf17, mf18, mf19, mf20, mf21, mf22, mf23, mf24, mf25, mf26, mp4, mp7, mp22, mp25, mp26, mq_0, al_I, as_I, zl_Z, zs_0, zs_1, Nat.reduceAdd, Nat.reduceLeDiff, Nat.zero_le, cat_0, cat_i, cat_r, opt_n, opt_s, true_and, nI_add, pk_mul, ua_ua, ua_s, ua_n, not_false_eq_true, Nat.reduceEqDiff, xi_n (show 12 * at' + col < 144 by omega) (show 144 < 2147483648 by decide), hT at' hat col hcol]
  refine r_inverse hp hp2 hpr (hTl at' col) hne hp1 ?_
  simp only [s152_0, s152_1, s152_2, s152_5, s152_7, s152_8, s152_9, s152_10, s152_11, s152_12, s152_15, s152_16, s152_17, s152_18, s152_19, s152_23, s152_24, s152_27, s152_30, s152_31, s152_32, s152_35, s152_37, s152_39, s152_40, s152_41, s152_42, s152_43, s152_44, s152_45, s152_48, s152_50, s152_51, s152_55, s152_56, s152_59, s152_62, s152_63, s152_66, s152_68, s152_70, s152_71, s152_73, s152_74, s152_75, s152_76, s152_79, s152_81, s152_83, s152_84, s152_86, s152_87, s152_88, s152_90, s152_91, s152_94, s152_96, s152_97, s152_98, s152_100, s152_101, s152_102, s152_103, s152_104, s152_107, s152_108, s152_111, s152_114, s152_117, s152_120, mis, mg1, mg2, mg3, mg4, mg5, mg6, mg7, mg8, mg9, mg10, mg11, mg12, mg13, mg14, mg15, mg16, mg17, mg18, mg19, mg20, mg21, mg22, ms1, ms2, ms3, ms4, ms5, ms6, ms7, ms8, ms9, ms10, ms11, ms12, ms13, ms14, ms15, ms16, ms17, ms18, ms19, ms20, ms21, ms22, mf0, mf1, mf2, mf3, mf4, mf5, mf6, mf7, mf8, mf9, mf10, mf11, mf12, mf13, mf14, mf15, mf16, mf17, mf18, mf19, mf20, mf21, mf22, mf23, mf24, mf25, mf26, mp4, mp7, mp22, mp25, mp26, mq_0, al_I, as_I, zl_Z, zs_0, zs_1, Nat.reduceAdd, Nat.reduceLeDiff, Nat.zero_le, cat_0, cat_i, cat_r, opt_n, opt_s, true_and, nI_add, pk_mul, ua_ua, ua_s, ua_n, not_false_eq_true, Nat.reduceEqDiff]
  have := l_cb21 (M := M) (A := A) (g := g) (X := X) (T := T) hp hp2 hp1 hn5 h0 hat hcol hiv.2.1 hTl hX (n0 - (at' + 1)) (at' + 1) (A 22) oU oU (by omega) (by omega) (fun a ha k hk => (hT a ha k hk).trans (congrArg nI (if_neg (by omega)).symm))
  rw [ua_id] at this
  exact this
theorem l_lt12 {i : Nat} (h1 : 1 ≤ v) (h2 : v ≤ 5) (hp : 2 ≤ p) (hp2 : p ≤ 101) (hlo : lo < p) (hr : okR v r) (hi : i < tHn v r) (hS : A0 1 0 = nI v ∧ A0 1 1 = nI p ∧ A0 1 2 = nI lo) (hX : ∀ B, mKeep A0 B → hTab v r B → (∀ a k, a < tHn v r → k < tHn v r → a < i + 1 → B 22 (12 * a + k) = nI (fN v p lo r a k)) → ex_W 153 43 [.ref M, .int (nI i), .int (nI (tHn v r))] [] (mdl M B g) X) : ∀ (n t : Nat) (A : Nat → Nat → Int32), n + t = tHn v r → mKeep A0 A → hTab v r A → (∀ a k, a < tHn v r → k < tHn v r → a < i ∨ a = i ∧ k < t → A 22 (12 * a + k) = nI (fN v p lo r a k)) → ex_W 153 12 [.ref M, .int (nI i), .int (nI t)] [] (mdl M A g) X := by
  obtain ⟨_, _, k2, k3⟩ := tHf0 h1 h2 hr
  intro n
  induction n with
  | zero =>
    intro t A hn hA hH hf
    obtain rfl : t = tHn v r := by omega
    rw [s153_12]
    simp only [s153_0, s153_1, s153_2, s153_3, s153_4, s153_7, s153_10, s153_11, s153_13, s153_14, s153_17, s153_20, s153_21, s153_24, s153_26, s153_27, s153_28, s153_29, s153_30, s153_31, s153_32, s153_33, s153_36, s153_37, s153_40, s153_46, s153_49, s153_50, s153_51, s153_54, s153_55, s153_56, s153_57, s153_60, s153_63, s153_64, s153_65, s153_66, s153_67, s153_70, s153_73, s153_74, s153_75, s153_76, s153_79, s153_82, s153_83, s153_84, s153_87, s153_88, s153_89, s153_92, s153_95, s153_96, s153_97, s153_100, s153_101, s153_104, s153_105, s153_106, s153_107, s153_110, s153_111, s153_114, s153_116, s153_117, s153_120, s153_121, s153_122, s153_123, s153_124, s153_125, s153_128, s153_131, s153_132, s153_133, s153_136, s153_137, s153_140, s153_141, s153_142, s153_145, s153_146, s153_147, s153_150, s153_153, s153_156, mis, mg1, mg2, mg3, mg4, mg5, mg6, mg7, mg8, mg9, mg10, mg11, mg12, mg13, mg14, mg15, mg16, mg17, mg18, mg19, mg20, mg21, mg22, ms1, ms2, ms3, ms4, ms5, ms6, ms7, ms8, ms9, ms10, ms11, ms12, ms13, ms14, ms15, ms16, ms17, ms18, ms19, ms20, ms21, ms22, mf0, mf1, mf2, mf3, mf4, mf5, mf6, mf7, mf8, mf9, mf10, mf11, mf12, mf13, mf14, mf15, mf16, mf17, mf18, mf19, mf20, mf21, mf22, mf23, mf24, mf25, mf26, mp4, mp7, mp22, mp25, mp26, mq_0, al_I, as_I, zl_Z, zs_0, zs_1, Nat.reduceAdd, Nat.reduceLeDiff, Nat.zero_le, cat_0, cat_i, cat_r, opt_n, opt_s, true_and, nI_add, pk_mul, ua_ua, ua_s, ua_n, not_false_eq_true, Nat.reduceEqDiff, hH.1]
    rw [if_pos ((nI_l1 (by omega) (by omega)).mpr (by omega))]
    exact hX A hA hH (fun a k ha hk h => hf a k ha hk (by omega))
  | succ n ih =>
    intro t A hn hA hH hf
    rw [s153_12]
    simp only [s153_0, s153_1, s153_2, s153_3, s153_4, s153_7, s153_10, s153_11, s153_13, s153_14, s153_17, s153_20, s153_21, s153_24, s153_26, s153_27, s153_28, s153_29, s153_30, s153_31, s153_32, s153_33, s153_36, s153_37, s153_40, s153_46, s153_49, s153_50, s153_51, s153_54, s153_55, s153_56, s153_57, s153_60, s153_63, s153_64, s153_65, s153_66, s153_67, s153_70, s153_73, s153_74, s153_75, s153_76, s153_79, s153_82, s153_83, s153_84, s153_87, s153_88, s153_89, s153_92, s153_95, s153_96, s153_97, s153_100, s153_101, s153_104, s153_105, s153_106, s153_107, s153_110, s153_111, s153_114, s153_116, s153_117, s153_120, s153_121, s153_122, s153_123, s153_124, s153_125, s153_128, s153_131, s153_132, s153_133, s153_136, s153_137, s153_140, s153_141, s153_142, s153_145, s153_146, s153_147, s153_150, s153_153, s153_156, mis, mg1, mg2, mg3, mg4, mg5, mg6, mg7, mg8, mg9, mg10, mg11, mg12, mg13, mg14, mg15, mg16, mg17, mg18, mg19, mg20, mg21, mg22, ms1, ms2, ms3, ms4, ms5, ms6, ms7, ms8, ms9, ms10, ms11, ms12, ms13, ms14, ms15, ms16, ms17, ms18, ms19, ms20, ms21, ms22, mf0, mf1, mf2, mf3, mf4, mf5, mf6, mf7, mf8, mf9, mf10, mf11, mf12, mf13, mf14, mf15, mf16, mf17, mf18, mf19, mf20, mf21, mf22, mf23, mf24, mf25, mf26, mp4, mp7, mp22, mp25, mp26, mq_0, al_I, as_I, zl_Z, zs_0, zs_1, Nat.reduceAdd, Nat.reduceLeDiff, Nat.zero_le, cat_0, cat_i, cat_r, opt_n, opt_s, true_and, nI_add, pk_mul, ua_ua, ua_s, ua_n, not_false_eq_true, Nat.reduceEqDiff, hH.1]
    rw [if_neg (fun z => absurd ((nI_l1 (by omega) (by omega)).mp z) (by omega))]
    refine r_formOf h1 h2 hp hp2 hlo hr hi (by omega) ?_ hH (fun f => ?_)
    · rw [hA.one]; exact hS
    · simp only [s153_0, s153_1, s153_2, s153_3, s153_4, s153_7, s153_10, s153_11, s153_13, s153_14, s153_17, s153_20, s153_21, s153_24, s153_26, s153_27, s153_28, s153_29, s153_30, s153_31, s153_32, s153_33, s153_36, s153_37, s153_40, s153_46, s153_49, s153_50, s153_51, s153_54, s153_55, s153_56, s153_57, s153_60, s153_63, s153_64, s153_65, s153_66, s153_67, s153_70, s153_73, s153_74, s153_75, s153_76, s153_79, s153_82, s153_83, s153_84, s153_87, s153_88, s153_89, s153_92, s153_95, s153_96, s153_97, s153_100, s153_101, s153_104, s153_105, s153_106, s153_107, s153_110, s153_111, s153_114, s153_116, s153_117, s153_120, s153_121, s153_122, s153_123, s153_124, s153_125, s153_128, s153_131, s153_132, s153_133, s153_136, s153_137, s153_140, s153_141, s153_142, s153_145, s153_146, s153_147, s153_150, s153_153, s153_156, mis, mg1, mg2, mg3, mg4, mg5, mg6, mg7, mg8, mg9, mg10, mg11, mg12, mg13, mg14, mg15, mg16, mg17, mg18, mg19, mg20, mg21, mg22, ms1, ms2, ms3, ms4, ms5, ms6, ms7, ms8, ms9, ms10, ms11, ms12, ms13, ms14, ms15, ms16, ms17, ms18, ms19, ms20, ms21, ms22, mf0, mf1, mf2, mf3, mf4, mf5, mf6, mf7, mf8, mf9, mf10, mf11, mf12, mf13, mf14, mf15, mf16, mf17, mf18, mf19, mf20, mf21, mf22, mf23, mf24, mf25, mf26, mp4, mp7, mp22, mp25, mp26, mq_0, al_I, as_I, zl_Z, zs_0, zs_1, Nat.reduceAdd, Nat.reduceLeDiff, Nat.zero_le, cat_0, cat_i, cat_r, opt_n, opt_s, true_and, nI_add, pk_mul, ua_ua, ua_s, ua_n, not_false_eq_true, Nat.reduceEqDiff, xi_n (show 12 * i + t < 144 by omega) (show 144 < 2147483648 by decide)]
      refine ih (t + 1) _ (by omega) ((hA.uk (by decide)).uk (by decide)) ?_ (fun a k ha hk h => ?_)
      · unfold hTab
        rw [ua_n (by decide), ua_n (by decide), ua_n (by decide), ua_n (by decide)]
        exact hH
      · rw [ua_s]
        by_cases c1 : 12 * a + k = 12 * i + t
        · obtain ⟨rfl, rfl⟩ : a = i ∧ k = t := by omega
          rw [pk_us]
        · rw [pk_un c1]
          exact hf a k ha hk (by omega)
theorem l_lt2 (h1 : 1 ≤ v) (h2 : v ≤ 5) (hp : 2 ≤ p) (hp2 : p ≤ 101) (hlo : lo < p) (hr : okR v r) (hS : A0 1 0 = nI v ∧ A0 1 1 = nI p ∧ A0 1 2 = nI lo) (hX : ∀ B l2, mKeep A0 B → hTab v r B → isT (tHn v r) (fN v p lo r) (B 22) → ex_W 153 49 [.ref M, .int (nI (tHn v r)), l2] [] (mdl M B g) X) : ∀ (n t : Nat) (A : Nat → Nat → Int32) (l2 : Value), n + t = tHn v r → mKeep A0 A → hTab v r A → (∀ a k, a < tHn v r → k < tHn v r → a < t → A 22 (12 * a + k) = nI (fN v p lo r a k)) → ex_W 153 2 [.ref M, .int (nI t), l2] [] (mdl M A g) X := by
  obtain ⟨_, _, k2, k3⟩ := tHf0 h1 h2 hr
  intro n
  induction n with
  | zero =>
    intro t A l2 hn hA hH hf
    obtain rfl : t = tHn v r := by omega
    rw [s153_2]
    simp only [s153_0, s153_1, s153_3, s153_4, s153_7, s153_10, s153_11, s153_13, s153_14, s153_17, s153_20, s153_21, s153_24, s153_26, s153_27, s153_28, s153_29, s153_30, s153_31, s153_32, s153_33, s153_36, s153_37, s153_40, s153_43, s153_46, s153_50, s153_51, s153_54, s153_55, s153_56, s153_57, s153_60, s153_63, s153_64, s153_65, s153_66, s153_67, s153_70, s153_73, s153_74, s153_75, s153_76, s153_79, s153_82, s153_83, s153_84, s153_87, s153_88, s153_89, s153_92, s153_95, s153_96, s153_97, s153_100, s153_101, s153_104, s153_105, s153_106, s153_107, s153_110, s153_111, s153_114, s153_116, s153_117, s153_120, s153_121, s153_122, s153_123, s153_124, s153_125, s153_128, s153_131, s153_132, s153_133, s153_136, s153_137, s153_140, s153_141, s153_142, s153_145, s153_146, s153_147, s153_150, s153_153, s153_156, mis, mg1, mg2, mg3, mg4, mg5, mg6, mg7, mg8, mg9, mg10, mg11, mg12, mg13, mg14, mg15, mg16, mg17, mg18, mg19, mg20, mg21, mg22, ms1, ms2, ms3, ms4, ms5, ms6, ms7, ms8, ms9, ms10, ms11, ms12, ms13, ms14, ms15, ms16, ms17, ms18, ms19, ms20, ms21, ms22, mf0, mf1, mf2, mf3, mf4, mf5, mf6, mf7, mf8, mf9, mf10, mf11, mf12, mf13, mf14, mf15, mf16, mf17, mf18, mf19, mf20, mf21, mf22, mf23, mf24, mf25, mf26, mp4, mp7, mp22, mp25, mp26, mq_0, al_I, as_I, zl_Z, zs_0, zs_1, Nat.reduceAdd, Nat.reduceLeDiff, Nat.zero_le, cat_0, cat_i, cat_r, opt_n, opt_s, true_and, nI_add, pk_mul, ua_ua, ua_s, ua_n, not_false_eq_true, Nat.reduceEqDiff, hH.1]
    rw [if_pos ((nI_l1 (by omega) (by omega)).mpr (by omega))]
    exact hX A _ hA hH (fun a ha k hk => hf a k ha hk ha)
  | succ n ih =>
    intro t A l2 hn hA hH hf
    rw [s153_2]
    simp only [s153_0, s153_1, s153_3, s153_4, s153_7, s153_10, s153_11, s153_13, s153_14, s153_17, s153_20, s153_21, s153_24, s153_26, s153_27, s153_28, s153_29, s153_30, s153_31, s153_32, s153_33, s153_36, s153_37, s153_40, s153_43, s153_46, s153_50, s153_51, s153_54, s153_55, s153_56, s153_57, s153_60, s153_63, s153_64, s153_65, s153_66, s153_67, s153_70, s153_73, s153_74, s153_75, s153_76, s153_79, s153_82, s153_83, s153_84, s153_87, s153_88, s153_89, s153_92, s153_95, s153_96, s153_97, s153_100, s153_101, s153_104, s153_105, s153_106, s153_107, s153_110, s153_111, s153_114, s153_116, s153_117, s153_120, s153_121, s153_122, s153_123, s153_124, s153_125, s153_128, s153_131, s153_132, s153_133, s153_136, s153_137, s153_140, s153_141, s153_142, s153_145, s153_146, s153_147, s153_150, s153_153, s153_156, mis, mg1, mg2, mg3, mg4, mg5, mg6, mg7, mg8, mg9, mg10, mg11, mg12, mg13, mg14, mg15, mg16, mg17, mg18, mg19, mg20, mg21, mg22, ms1, ms2, ms3, ms4, ms5, ms6, ms7, ms8, ms9, ms10, ms11, ms12, ms13, ms14, ms15, ms16, ms17, ms18, ms19, ms20, ms21, ms22, mf0, mf1, mf2, mf3, mf4, mf5, mf6, mf7, mf8, mf9, mf10, mf11, mf12, mf13, mf14, mf15, mf16, mf17, mf18, mf19, mf20, mf21, mf22, mf23, mf24, mf25, mf26, mp4, mp7, mp22, mp25, mp26, mq_0, al_I, as_I, zl_Z, zs_0, zs_1, Nat.reduceAdd, Nat.reduceLeDiff, Nat.zero_le, cat_0, cat_i, cat_r, opt_n, opt_s, true_and, nI_add, pk_mul, ua_ua, ua_s, ua_n, not_false_eq_true, Nat.reduceEqDiff, hH.1]
    rw [if_neg (fun z => absurd ((nI_l1 (by omega) (by omega)).mp z) (by omega))]
    refine l_lt12 h1 h2 hp hp2 hlo hr (show t < tHn v r by omega) hS (fun B hB hHB hfB => ?_) (tHn v r) 0 A (by omega) hA hH (fun a k ha hk h => hf a k ha hk (by omega))
    simp only [s153_43, s153_46, nI_add]
    exact ih (t + 1) B _ (by omega) hB hHB hfB
theorem l_lt65 {n0 : Nat} (hp : 2 ≤ p) (hp2 : p ≤ 101) (hpr : prT p = true) (hn5 : n0 ≤ 5) (hp1 : A0 1 1 = nI p) (hA02 : A0 0 2 = nI n0) : ∀ (n t : Nat) (x : (Nat → Nat → Nat) × Nat × Nat) (A : Nat → Nat → Int32) (l2 : Value), n + t = n0 → mKeep A0 A → A 0 2 = nI n0 → A 0 3 = nI x.2.1 → A 0 4 = nI x.2.2 → x.2.1 ≤ t → x.2.2 < p → (∀ a k, x.1 a k < p) → isT n0 x.1 (A 22) → (∀ B, mKeep A0 B → B 0 2 = nI n0 → B 0 3 = nI (elm p n0 n t x).2.1 → B 0 4 = nI (elm p n0 n t x).2.2 → X none (mdl M B g)) → ex_W 153 65 [.ref M, .int (nI t), l2] [] (mdl M A g) X := by
  intro n
  induction n with
  | zero =>
    intro t x A l2 hn hA h02 h03 h04 hrk hdt hTl hT hX
    obtain rfl : t = n0 := by omega
    rw [s153_65]
    simp only [s153_0, s153_1, s153_2, s153_3, s153_4, s153_7, s153_10, s153_11, s153_12, s153_13, s153_14, s153_17, s153_20, s153_21, s153_24, s153_26, s153_27, s153_28, s153_29, s153_30, s153_31, s153_32, s153_33, s153_36, s153_37, s153_40, s153_43, s153_46, s153_49, s153_50, s153_51, s153_54, s153_55, s153_56, s153_57, s153_60, s153_63, s153_64, s153_66, s153_67, s153_70, s153_73, s153_74, s153_75, s153_76, s153_79, s153_82, s153_83, s153_84, s153_87, s153_88, s153_89, s153_92, s153_95, s153_96, s153_97, s153_100, s153_101, s153_104, s153_105, s153_106, s153_107, s153_110, s153_111, s153_114, s153_116, s153_117, s153_120, s153_121, s153_122, s153_123, s153_124, s153_125, s153_128, s153_131, s153_132, s153_133, s153_136, s153_137, s153_140, s153_141, s153_142, s153_145, s153_146, s153_147, s153_150, s153_153, s153_156, mis, mg1, mg2, mg3, mg4, mg5, mg6, mg7, mg8, mg9, mg10, mg11, mg12, mg13, mg14, mg15, mg16, mg17, mg18, mg19, mg20, mg21, mg22, ms1, ms2, ms3, ms4, ms5, ms6, ms7, ms8, ms9, ms10, ms11, ms12, ms13, ms14, ms15, ms16, ms17, ms18, ms19, ms20, ms21, ms22, mf0, mf1, mf2, mf3, mf4, mf5, mf6, mf7, mf8, mf9, mf10, mf11, mf12, mf13, mf14, mf15, mf16, mf17, mf18, mf19, mf20, mf21, mf22, mf23, mf24, mf25, mf26, mp4, mp7, mp22, mp25, mp26, mq_0, al_I, as_I, zl_Z, zs_0, zs_1, Nat.reduceAdd, Nat.reduceLeDiff, Nat.zero_le, cat_0, cat_i, cat_r, opt_n, opt_s, true_and, nI_add, pk_mul, ua_ua, ua_s, ua_n, not_false_eq_true, Nat.reduceEqDiff, mq_00, h02]
    rw [if_pos ((nI_l1 (by omega) (by omega)).mpr (by omega))]
    exact hX A hA h02 h03 h04
  | succ n ih =>
    intro t x A l2 hn hA h02 h03 h04 hrk hdt hTl hT hX
    obtain ⟨T, rk, dt⟩ := x
    simp only at h03 h04 hrk hdt hTl hT
    have hp1' : A 1 1 = nI p := by rw [hA.one]; exact hp1
    rw [elm] at hX
    unfold stE at hX
    simp only at hX
    rw [s153_65]
    simp only [s153_0, s153_1, s153_2, s153_3, s153_4, s153_7, s153_10, s153_11, s153_12, s153_13, s153_14, s153_17, s153_20, s153_21, s153_24, s153_26, s153_27, s153_28, s153_29, s153_30, s153_31, s153_32, s153_33, s153_36, s153_37, s153_40, s153_43, s153_46, s153_49, s153_50, s153_51, s153_54, s153_55, s153_56, s153_57, s153_60, s153_63, s153_64, s153_66, s153_67, s153_70, s153_73, s153_74, s153_75, s153_76, s153_79, s153_82, s153_84, s153_87, s153_88, s153_89, s153_92, s153_95, s153_96, s153_97, s153_100, s153_101, s153_104, s153_105, s153_106, s153_107, s153_110, s153_111, s153_114, s153_116, s153_117, s153_120, s153_121, s153_122, s153_123, s153_124, s153_125, s153_128, s153_131, s153_132, s153_133, s153_136, s153_137, s153_140, s153_141, s153_142, s153_145, s153_146, s153_147, s153_150, s153_153, s153_156, mis, mg1, mg2, mg3, mg4, mg5, mg6, mg7, mg8, mg9, mg10, mg11, mg12, mg13, mg14, mg15, mg16, mg17, mg18, mg19, mg20, mg21, mg22, ms1, ms2, ms3, ms4, ms5, ms6, ms7, ms8, ms9, ms10, ms11, ms12, ms13, ms14, ms15, ms16, ms17, ms18, ms19, ms20, ms21, ms22, mf0, mf1, mf2, mf3, mf4, mf5, mf6, mf7, mf8, mf9, mf10, mf11, mf12, mf13, mf14, mf15, mf16, mf17, mf18, mf19, mf20, mf21, mf22, mf23, mf24, mf25, mf26, mp4, mp7, mp22, mp25, mp26, mq_0, al_I, as_I, zl_Z, zs_0, zs_1, Nat.reduceAdd, Nat.reduceLeDiff, Nat.zero_le, cat_0, cat_i, cat_r, opt_n, opt_s, true_and, nI_add, pk_mul, ua_ua, ua_s, ua_n, not_false_eq_true, Nat.reduceEqDiff, h02, h03, s151_0, s151_1]
    rw [if_neg (fun z => absurd ((nI_l1 (by omega) (by omega)).mp z) (by omega))]
    refine r_rowWith hn5 h02 (show t < n0 by omega) hT (fun a k => by have := hTl a k; omega) (n0 - rk) rk (by omega) ?_
    cases hf : fdr T t (n0 - rk) rk with
    | none =>
      rw [hf] at hX
      simp only [s153_0, s153_1, s153_2, s153_3, s153_4, s153_7, s153_10, s153_11, s153_12, s153_13, s153_14, s153_17, s153_20, s153_21, s153_24, s153_26, s153_27, s153_28, s153_29, s153_30, s153_31, s153_32, s153_33, s153_36, s153_37, s153_40, s153_43, s153_46, s153_49, s153_50, s153_51, s153_54, s153_55, s153_56, s153_57, s153_60, s153_63, s153_64, s153_66, s153_67, s153_70, s153_73, s153_74, s153_75, s153_76, s153_79, s153_82, s153_83, s153_84, s153_87, s153_88, s153_89, s153_92, s153_95, s153_96, s153_97, s153_100, s153_101, s153_104, s153_105, s153_106, s153_107, s153_110, s153_111, s153_114, s153_116, s153_117, s153_120, s153_121, s153_122, s153_123, s153_124, s153_125, s153_128, s153_131, s153_132, s153_133, s153_136, s153_137, s153_140, s153_141, s153_142, s153_145, s153_146, s153_147, s153_150, s153_153, s153_156, mis, mg1, mg2, mg3, mg4, mg5, mg6, mg7, mg8, mg9, mg10, mg11, mg12, mg13, mg14, mg15, mg16, mg17, mg18, mg19, mg20, mg21, mg22, ms1, ms2, ms3, ms4, ms5, ms6, ms7, ms8, ms9, ms10, ms11, ms12, ms13, ms14, ms15, ms16, ms17, ms18, ms19, ms20, ms21, ms22, mf0, mf1, mf2, mf3, mf4, mf5, mf6, mf7, mf8, mf9, mf10, mf11, mf12, mf13, mf14, mf15, mf16, mf17, mf18, mf19, mf20, mf21, mf22, mf23, mf24, mf25, mf26, mp4, mp7, mp22, mp25, mp26, mq_0, al_I, as_I, zl_Z, zs_0, zs_1, Nat.reduceAdd, Nat.reduceLeDiff, Nat.zero_le, cat_0, cat_i, cat_r, opt_n, opt_s, true_and, nI_add, pk_mul, ua_ua, ua_s, ua_n, not_false_eq_true, Nat.reduceEqDiff, mq_00]
      rw [if_neg (by decide)]
      refine ih (t + 1) (T, rk, 0) _ _ (by omega) (hA.u0 (by decide)) ?_ ?_ ?_ (by show rk ≤ t + 1; omega) (by show 0 < p; omega) hTl ?_ hX
      · rw [ua_s, pk_un (by decide)]; exact h02
      · rw [ua_s, pk_un (by decide)]; exact h03
      · rw [ua_s, pk_us]
      · rw [ua_n (by decide)]; exact hT
    | some f =>
      rw [hf] at hX
      obtain ⟨c1, c2, c3⟩ := fdr_ok _ _ _ hf
      have hf2 : f < n0 := by omega
      have hsw : swp T rk f rk t ≠ 0 := by unfold swp; rw [if_pos rfl]; exact c3
      simp only [s153_0, s153_1, s153_2, s153_3, s153_4, s153_7, s153_10, s153_11, s153_12, s153_13, s153_14, s153_17, s153_20, s153_21, s153_24, s153_26, s153_27, s153_28, s153_29, s153_30, s153_31, s153_32, s153_33, s153_36, s153_37, s153_40, s153_43, s153_46, s153_49, s153_50, s153_51, s153_54, s153_55, s153_56, s153_57, s153_60, s153_63, s153_64, s153_66, s153_67, s153_70, s153_73, s153_74, s153_75, s153_76, s153_79, s153_82, s153_83, s153_84, s153_87, s153_88, s153_89, s153_92, s153_95, s153_96, s153_97, s153_100, s153_101, s153_104, s153_105, s153_106, s153_107, s153_110, s153_111, s153_114, s153_116, s153_117, s153_120, s153_121, s153_122, s153_123, s153_124, s153_125, s153_128, s153_131, s153_132, s153_133, s153_136, s153_137, s153_140, s153_141, s153_142, s153_145, s153_146, s153_147, s153_150, s153_153, s153_156, mis, mg1, mg2, mg3, mg4, mg5, mg6, mg7, mg8, mg9, mg10, mg11, mg12, mg13, mg14, mg15, mg16, mg17, mg18, mg19, mg20, mg21, mg22, ms1, ms2, ms3, ms4, ms5, ms6, ms7, ms8, ms9, ms10, ms11, ms12, ms13, ms14, ms15, ms16, ms17, ms18, ms19, ms20, ms21, ms22, mf0, mf1, mf2, mf3, mf4, mf5, mf6, mf7, mf8, mf9, mf10, mf11, mf12, mf13, mf14, mf15, mf16, mf17, mf18, mf19, mf20, mf21, mf22, mf23, mf24, mf25, mf26, mp4, mp7, mp22, mp25, mp26, mq_0, al_I, as_I, zl_Z, zs_0, zs_1, Nat.reduceAdd, Nat.reduceLeDiff, Nat.zero_le, cat_0, cat_i, cat_r, opt_n, opt_s, true_and, nI_add, pk_mul, ua_ua, ua_s, ua_n, not_false_eq_true, Nat.reduceEqDiff, mq_00, h03]
      rw [if_pos ((nI_l1 (by omega) (by omega)).mpr (by omega))]
      refine r_swapRows hp hp2 hp1' hn5 h02 (by omega) hf2 hT h04 hdt (fun f1 hf1 => ?_)
      have hd1 : (if rk = f then dt else (0 + p - dt) % p) < p := by
        split
        · exact hdt
        · exact Nat.mod_lt _ (by omega)
      have hl1 := swp_lt (i := rk) (j := f) hTl
      have b1 : (if rk = f then dt else (0 + p - dt) % p) * swp T rk f rk t < 2147483648 := by
        have : (if rk = f then dt else (0 + p - dt) % p) * swp T rk f rk t ≤ 101 * 101 := Nat.mul_le_mul (by omega) (by have := hl1 rk t; omega)
        omega
      simp only [s153_0, s153_1, s153_2, s153_3, s153_4, s153_7, s153_10, s153_11, s153_12, s153_13, s153_14, s153_17, s153_20, s153_21, s153_24, s153_26, s153_27, s153_28, s153_29, s153_30, s153_31, s153_32, s153_33, s153_36, s153_37, s153_40, s153_43, s153_46, s153_49, s153_50, s153_51, s153_54, s153_55, s153_56, s153_57, s153_60, s153_63, s153_64, s153_66, s153_67, s153_70, s153_73, s153_74, s153_75, s153_76, s153_79, s153_82, s153_83, s153_84, s153_87, s153_88, s153_89, s153_92, s153_95, s153_96, s153_97, s153_100, s153_101, s153_104, s153_105, s153_106, s153_107, s153_110, s153_111, s153_114, s153_116, s153_117, s153_120, s153_121, s153_122, s153_123, s153_124, s153_125, s153_128, s153_131, s153_132, s153_133, s153_136, s153_137, s153_140, s153_141, s153_142, s153_145, s153_146, s153_147, s153_150, s153_153, s153_156, mis, mg1, mg2, mg3, mg4, mg5, mg6, mg7, mg8, mg9, mg10, mg11, mg12, mg13, mg14, mg15, mg16, mg17, mg18, mg19, mg20, mg21, mg22, ms1, ms2, ms3, ms4, ms5, ms6, ms7, ms8, ms9, ms10, ms11, ms12, ms13, ms14, ms15, ms16, ms17, ms18, ms19, ms20, ms21, ms22, mf0, mf1, mf2, mf3, mf4, mf5, mf6, mf7, mf8, mf9, mf10, mf11, mf12, mf13, mf14, mf15, mf16, mf17, mf18, mf19, mf20, mf21, mf22, mf23, mf24, mf25, mf26, mp4, mp7, mp22, mp25, mp26, mq_0, al_I, as_I, zl_Z, zs_0, zs_1, Nat.reduceAdd, Nat.reduceLeDiff, Nat.zero_le, cat_0, cat_i, cat_r, opt_n, opt_s, true_and, nI_add, pk_mul, ua_ua, ua_s, ua_n, not_false_eq_true, Nat.reduceEqDiff, mq_00, pk_us, pk_un (show (3 : Nat) ≠ 4 by decide), h03, xi_n (show 12 * rk + t < 144 by omega) (show 144 < 2147483648 by decide), hf1 rk (by omega) t (by omega)]
      rw [r_by hp hp2 (by rw [ua_n (by decide), ua_n (by decide)]; exact hp1'), nF_n hp (by omega) b1]
      simp only [s153_0, s153_1, s153_2, s153_3, s153_4, s153_7, s153_10, s153_11, s153_12, s153_13, s153_14, s153_17, s153_20, s153_21, s153_24, s153_26, s153_27, s153_28, s153_29, s153_30, s153_31, s153_32, s153_33, s153_36, s153_37, s153_40, s153_43, s153_46, s153_49, s153_50, s153_51, s153_54, s153_55, s153_56, s153_57, s153_60, s153_63, s153_64, s153_66, s153_67, s153_70, s153_73, s153_74, s153_75, s153_76, s153_79, s153_82, s153_83, s153_84, s153_87, s153_88, s153_89, s153_92, s153_95, s153_96, s153_97, s153_100, s153_101, s153_104, s153_105, s153_106, s153_107, s153_110, s153_111, s153_114, s153_116, s153_117, s153_120, s153_121, s153_122, s153_123, s153_124, s153_125, s153_128, s153_131, s153_132, s153_133, s153_136, s153_137, s153_140, s153_141, s153_142, s153_145, s153_146, s153_147, s153_150, s153_153, s153_156, mis, mg1, mg2, mg3, mg4, mg5, mg6, mg7, mg8, mg9, mg10, mg11, mg12, mg13, mg14, mg15, mg16, mg17, mg18, mg19, mg20, mg21, mg22, ms1, ms2, ms3, ms4, ms5, ms6, ms7, ms8, ms9, ms10, ms11, ms12, ms13, ms14, ms15, ms16, ms17, ms18, ms19, ms20, ms21, ms22, mf0, mf1, mf2, mf3, mf4, mf5, mf6, mf7, mf8, mf9, mf10, mf11, mf12, mf13, mf14, mf15, mf16, mf17, mf18, mf19, mf20, mf21, mf22, mf23, mf24, mf25, mf26, mp4, mp7, mp22, mp25, mp26, mq_0, al_I, as_I, zl_Z, zs_0, zs_1, Nat.reduceAdd, Nat.reduceLeDiff, Nat.zero_le, cat_0, cat_i, cat_r, opt_n, opt_s, true_and, nI_add, pk_mul, ua_ua, ua_s, ua_n, not_false_eq_true, Nat.reduceEqDiff, mq_00, pk_un (show (3 : Nat) ≠ 4 by decide), h03]
      refine r_clearBelow (T := swp T rk f) hp hp2 hpr ?_ hn5 ?_ (show rk < n0 by omega) (show t < n0 by omega) hl1 ?_ hsw (fun f2 hf2' => ?_)
      · rw [ua_n (by decide), ua_n (by decide)]; exact hp1'
      · rw [ua_s, pk_un (by decide), pk_un (by decide)]; exact h02
      · rw [ua_n (by decide), ua_s]; exact hf1
      · simp only [s153_0, s153_1, s153_2, s153_3, s153_4, s153_7, s153_10, s153_11, s153_12, s153_13, s153_14, s153_17, s153_20, s153_21, s153_24, s153_26, s153_27, s153_28, s153_29, s153_30, s153_31, s153_32, s153_33, s153_36, s153_37, s153_40, s153_43, s153_46, s153_49, s153_50, s153_51, s153_54, s153_55, s153_56, s153_57, s153_60, s153_63, s153_64, s153_66, s153_67, s153_70, s153_73, s153_74, s153_75, s153_76, s153_79, s153_82, s153_83, s153_84, s153_87, s153_88, s153_89, s153_92, s153_95, s153_96, s153_97, s153_100, s153_101, s153_104, s153_105, s153_106, s153_107, s153_110, s153_111, s153_114, s153_116, s153_117, s153_120, s153_121, s153_122, s153_123, s153_124, s153_125, s153_128, s153_131, s153_132, s153_133, s153_136, s153_137, s153_140, s153_141, s153_142, s153_145, s153_146, s153_147, s153_150, s153_153, s153_156, mis, mg1, mg2, mg3, mg4, mg5, mg6, mg7, mg8, mg9, mg10, mg11, mg12, mg13, mg14, mg15, mg16, mg17, mg18, mg19, mg20, mg21, mg22, ms1, ms2, ms3, ms4, ms5, ms6, ms7, ms8, ms9, ms10, ms11, ms12, ms13, ms14, ms15, ms16, ms17, ms18, ms19, ms20, ms21, ms22, mf0, mf1, mf2, mf3, mf4, mf5, mf6, mf7, mf8, mf9, mf10, mf11, mf12, mf13, mf14, mf15, mf16, mf17, mf18, mf19, mf20, mf21, mf22, mf23, mf24, mf25, mf26, mp4, mp7, mp22, mp25, mp26, mq_0, al_I, as_I, zl_Z, zs_0, zs_1, Nat.reduceAdd, Nat.reduceLeDiff, Nat.zero_le, cat_0, cat_i, cat_r, opt_n, opt_s, true_and, nI_add, pk_mul, ua_ua, ua_s, ua_n, not_false_eq_true, Nat.reduceEqDiff, mq_00, pk_un (show (3 : Nat) ≠ 4 by decide), h03]
        refine ih (t + 1) (clrT p rk (iv p (swp T rk f rk t)) t (swp T rk f), rk + 1, (if rk = f then dt else (0 + p - dt) % p) * swp T rk f rk t % p) _ _ (by omega) ?_ ?_ ?_ ?_ (by show rk + 1 ≤ t + 1; omega) (Nat.mod_lt _ (by omega)) (clrT_lt hp hl1) ?_ hX
        · refine mKeep.trans hA ⟨?_, ?_, fun k q1 q2 => ?_⟩
          · rw [ua_s, pk_un (by decide), pk_un (by decide), pk_un (by decide)]
          · rw [ua_s, pk_un (by decide), pk_un (by decide), pk_un (by decide)]
          · rw [ua_n (by omega), ua_n (by omega), ua_n (by omega), ua_n (by omega)]
        · rw [ua_s, pk_un (by decide), pk_un (by decide), pk_un (by decide)]; exact h02
        · rw [ua_s, pk_us]
        · rw [ua_s, pk_un (by decide), pk_us]
        · rw [ua_n (by decide), ua_s]; exact hf2'
theorem r_layTable (h1 : 1 ≤ v) (h2 : v ≤ 5) (hp : 2 ≤ p) (hp2 : p ≤ 101) (hpr : prT p = true) (hlo : lo < p) (hr : okR v r) (hS : A 1 0 = nI v ∧ A 1 1 = nI p ∧ A 1 2 = nI lo) (hH : hTab v r A) (hX : ∀ B, mKeep A B → B 0 2 = nI (tHn v r) → B 0 3 = nI (elmR v p lo r).2.1 → B 0 4 = nI (elmR v p lo r).2.2 → X none (mdl M B g)) : ex_W 153 0 [.ref M, oU, oU] [] (mdl M A g) X := by
  obtain ⟨_, _, k2, k3⟩ := tHf0 h1 h2 hr
  rw [s153_0, s153_1]
  refine l_lt2 h1 h2 hp hp2 hlo hr hS (fun B l2 hB hHB hTB => ?_) (tHn v r) 0 A _ (by omega) mKeep.rfl' hH (fun a k _ _ h => by omega)
  have hp1' : (ua B 0 (upd (B 0) 3 (nI 0))) 1 1 = nI p := by rw [ua_n (by decide), hB.one]; exact hS.2.1
  simp only [s153_0, s153_1, s153_3, s153_4, s153_7, s153_10, s153_11, s153_12, s153_13, s153_14, s153_17, s153_20, s153_21, s153_24, s153_26, s153_27, s153_28, s153_29, s153_30, s153_31, s153_32, s153_33, s153_36, s153_37, s153_40, s153_43, s153_46, s153_49, s153_50, s153_51, s153_54, s153_55, s153_56, s153_57, s153_60, s153_63, s153_64, s153_66, s153_67, s153_70, s153_73, s153_74, s153_75, s153_76, s153_79, s153_82, s153_83, s153_84, s153_87, s153_88, s153_89, s153_92, s153_95, s153_96, s153_97, s153_100, s153_101, s153_104, s153_105, s153_106, s153_107, s153_110, s153_111, s153_114, s153_116, s153_117, s153_120, s153_121, s153_122, s153_123, s153_124, s153_125, s153_128, s153_131, s153_132, s153_133, s153_136, s153_137, s153_140, s153_141, s153_142, s153_145, s153_146, s153_147, s153_150, s153_153, s153_156, mis, mg1, mg2, mg3, mg4, mg5, mg6, mg7, mg8, mg9, mg10, mg11, mg12, mg13, mg14, mg15, mg16, mg17, mg18, mg19, mg20, mg21, mg22, ms1, ms2, ms3, ms4, ms5, ms6, ms7, ms8, ms9, ms10, ms11, ms12, ms13, ms14, ms15, ms16, ms17, ms18, ms19, ms20, ms21, ms22, mf0, mf1, mf2, mf3, mf4, mf5, mf6, mf7, mf8, mf9, mf10, mf11, mf12, mf13, mf14, mf15, mf16, mf17, mf18, mf19, mf20, mf21, mf22, mf23, mf24, mf25, mf26, mp4, mp7, mp22, mp25, mp26, mq_0, al_I, as_I, zl_Z, zs_0, zs_1, Nat.reduceAdd, Nat.reduceLeDiff, Nat.zero_le, cat_0, cat_i, cat_r, opt_n, opt_s, true_and, nI_add, pk_mul, ua_ua, ua_s, ua_n, not_false_eq_true, Nat.reduceEqDiff, mq_00]
  rw [r_by hp hp2 hp1', nF_n hp (by omega) (by decide), Nat.mod_eq_of_lt (show 1 < p by omega)]
  simp only [s153_0, s153_1, s153_3, s153_4, s153_7, s153_10, s153_11, s153_12, s153_13, s153_14, s153_17, s153_20, s153_21, s153_24, s153_26, s153_27, s153_28, s153_29, s153_30, s153_31, s153_32, s153_33, s153_36, s153_37, s153_40, s153_43, s153_46, s153_49, s153_50, s153_51, s153_54, s153_55, s153_56, s153_57, s153_60, s153_63, s153_64, s153_66, s153_67, s153_70, s153_73, s153_74, s153_75, s153_76, s153_79, s153_82, s153_83, s153_84, s153_87, s153_88, s153_89, s153_92, s153_95, s153_96, s153_97, s153_100, s153_101, s153_104, s153_105, s153_106, s153_107, s153_110, s153_111, s153_114, s153_116, s153_117, s153_120, s153_121, s153_122, s153_123, s153_124, s153_125, s153_128, s153_131, s153_132, s153_133, s153_136, s153_137, s153_140, s153_141, s153_142, s153_145, s153_146, s153_147, s153_150, s153_153, s153_156, mis, mg1, mg2, mg3, mg4, mg5, mg6, mg7, mg8, mg9, mg10, mg11, mg12, mg13, mg14, mg15, mg16, mg17, mg18, mg19, mg20, mg21, mg22, ms1, ms2, ms3, ms4, ms5, ms6, ms7, ms8, ms9, ms10, ms11, ms12, ms13, ms14, ms15, ms16, ms17, ms18, ms19, ms20, ms21, ms22, mf0, mf1, mf2, mf3, mf4, mf5, mf6, mf7, mf8, mf9, mf10, mf11, mf12, mf13, mf14, mf15, mf16, mf17, mf18, mf19, mf20, mf21, mf22, mf23, mf24, mf25, mf26, mp4, mp7, mp22, mp25, mp26, mq_0, al_I, as_I, zl_Z, zs_0, zs_1, Nat.reduceAdd, Nat.reduceLeDiff, Nat.zero_le, cat_0, cat_i, cat_r, opt_n, opt_s, true_and, nI_add, pk_mul, ua_ua, ua_s, ua_n, not_false_eq_true, Nat.reduceEqDiff, mq_00]
  refine l_lt65 (A0 := A) hp hp2 hpr k3 hS.2.1 hH.1 (tHn v r) 0 (fN v p lo r, 0, 1) _ _ (by omega) (mKeep.trans hB ⟨?_, ?_, fun k q1 q2 => ?_⟩) ?_ ?_ ?_ (by show 0 ≤ 0; omega) (by show 1 < p; omega) (fun a k => fN_lt hp) ?_ hX
  · rw [ua_s, pk_un (by decide), pk_un (by decide)]
  · rw [ua_s, pk_un (by decide), pk_un (by decide)]
  · rw [ua_n (by omega)]
  · rw [ua_s, pk_un (by decide), pk_un (by decide)]; exact hHB.1
  · rw [ua_s, pk_un (by decide), pk_us]
  · rw [ua_s, pk_us]
  · rw [ua_n (by decide)]; exact hTB
def aCe (v p lo : Nat) (x y : Int32) : Int32 := if isC v x ∧ isW 0 2 y then (if y = nI 0 then nI (tHn v (ix x)) else if y = nI 1 then nI (elmR v p lo (ix x)).2.2 else nI (elmR v p lo (ix x)).2.1) else -2
theorem r_cell {x y : Int32} (h1 : 1 ≤ v) (h2 : v ≤ 5) (hp : 2 ≤ p) (hp2 : p ≤ 101) (hpr : prT p = true) (hlo : lo < p) (hS : A 1 0 = nI v ∧ A 1 1 = nI p ∧ A 1 2 = nI lo) (hX : ∀ B, mKeep A B → X (some (.int (aCe v p lo x y))) (mdl M B g)) : ex_W 154 0 [.ref M, .int x, .int y] [] (mdl M A g) X := by
  unfold aCe at hX
  by_cases hx : isC v x
  · obtain ⟨hr, x3⟩ := isC_e h2 hx
    by_cases hy : isW 0 2 y
    · rw [if_pos ⟨hx, hy⟩] at hX
      simp only [s154_0, s154_1, s154_2, s154_5, s154_8, s154_9, s154_10, s154_11, s154_14, s154_17, s154_19, s154_20, s154_21, s154_22, s154_25, s154_26, s154_29, s154_30, s154_33, s154_34, s154_37, s154_40, s154_41, s154_42, s154_45, s154_46, s154_49, s154_52, s154_53, s154_56, mis, mg1, mg2, mg3, mg4, mg5, mg6, mg7, mg8, mg9, mg10, mg11, mg12, mg13, mg14, mg15, mg16, mg17, mg18, mg19, mg20, mg21, mg22, ms1, ms2, ms3, ms4, ms5, ms6, ms7, ms8, ms9, ms10, ms11, ms12, ms13, ms14, ms15, ms16, ms17, ms18, ms19, ms20, ms21, ms22, mf0, mf1, mf2, mf3, mf4, mf5, mf6, mf7, mf8, mf9, mf10, mf11, mf12, mf13, mf14, mf15, mf16, mf17, mf18, mf19, mf20, mf21, mf22, mf23, mf24, mf25, mf26, mp4, mp7, mp22, mp25, mp26, mq_0, al_I, as_I, zl_Z, zs_0, zs_1, Nat.reduceAdd, Nat.reduceLeDiff, Nat.zero_le, cat_0, cat_i, cat_r, opt_n, opt_s, true_and, nI_add, pk_mul, ua_ua, ua_s, ua_n, not_false_eq_true, Nat.reduceEqDiff, r_isCell h1 h2 hS.1, r_inW, if_pos hx, if_pos hy, i10, i10n, not_true_eq_false, if_false, if_true]
      rw [← x3]
      refine r_layHalves h1 h2 hr hS.1 (fun B hB hH => ?_)
      simp only [s154_0, s154_1, s154_2, s154_5, s154_8, s154_9, s154_10, s154_11, s154_14, s154_17, s154_19, s154_20, s154_21, s154_22, s154_25, s154_26, s154_29, s154_30, s154_33, s154_34, s154_37, s154_40, s154_41, s154_42, s154_45, s154_46, s154_49, s154_52, s154_53, s154_56, mis, mg1, mg2, mg3, mg4, mg5, mg6, mg7, mg8, mg9, mg10, mg11, mg12, mg13, mg14, mg15, mg16, mg17, mg18, mg19, mg20, mg21, mg22, ms1, ms2, ms3, ms4, ms5, ms6, ms7, ms8, ms9, ms10, ms11, ms12, ms13, ms14, ms15, ms16, ms17, ms18, ms19, ms20, ms21, ms22, mf0, mf1, mf2, mf3, mf4, mf5, mf6, mf7, mf8, mf9, mf10, mf11, mf12, mf13, mf14, mf15, mf16, mf17, mf18, mf19, mf20, mf21, mf22, mf23, mf24, mf25, mf26, mp4, mp7, mp22, mp25, mp26, mq_0, al_I, as_I, zl_Z, zs_0, zs_1, Nat.reduceAdd, Nat.reduceLeDiff, Nat.zero_le, cat_0, cat_i, cat_r, opt_n, opt_s, true_and, nI_add, pk_mul, ua_ua, ua_s, ua_n, not_false_eq_true, Nat.reduceEqDiff]
      refine r_layTable h1 h2 hp hp2 hpr hlo hr (by rw [hB.one]; exact hS) hH (fun D hD d2 d3 d4 => ?_)
      simp only [s154_0, s154_1, s154_2, s154_5, s154_8, s154_9, s154_10, s154_11, s154_14, s154_17, s154_19, s154_20, s154_21, s154_22, s154_25, s154_26, s154_29, s154_30, s154_33, s154_34, s154_37, s154_40, s154_41, s154_42, s154_45, s154_46, s154_49, s154_52, s154_53, s154_56, mis, mg1, mg2, mg3, mg4, mg5, mg6, mg7, mg8, mg9, mg10, mg11, mg12, mg13, mg14, mg15, mg16, mg17, mg18, mg19, mg20, mg21, mg22, ms1, ms2, ms3, ms4, ms5, ms6, ms7, ms8, ms9, ms10, ms11, ms12, ms13, ms14, ms15, ms16, ms17, ms18, ms19, ms20, ms21, ms22, mf0, mf1, mf2, mf3, mf4, mf5, mf6, mf7, mf8, mf9, mf10, mf11, mf12, mf13, mf14, mf15, mf16, mf17, mf18, mf19, mf20, mf21, mf22, mf23, mf24, mf25, mf26, mp4, mp7, mp22, mp25, mp26, mq_0, al_I, as_I, zl_Z, zs_0, zs_1, Nat.reduceAdd, Nat.reduceLeDiff, Nat.zero_le, cat_0, cat_i, cat_r, opt_n, opt_s, true_and, nI_add, pk_mul, ua_ua, ua_s, ua_n, not_false_eq_true, Nat.reduceEqDiff, d2, d3, d4]
      by_cases y0 : y = nI 0
      · rw [if_pos y0] at hX
        rw [if_neg (fun z => z y0)]
        exact hX D (hB.trans hD)
      · rw [if_neg y0] at hX
        rw [if_pos y0]
        by_cases y1 : y = nI 1
        · rw [if_pos y1] at hX
          rw [if_neg (fun z => z y1)]
          exact hX D (hB.trans hD)
        · rw [if_neg y1] at hX
          rw [if_pos y1]
          exact hX D (hB.trans hD)
    · rw [if_neg (fun q => hy q.2)] at hX
      simp only [s154_0, s154_1, s154_2, s154_5, s154_8, s154_9, s154_10, s154_11, s154_14, s154_17, s154_19, s154_20, s154_21, s154_22, s154_25, s154_26, s154_29, s154_30, s154_33, s154_34, s154_37, s154_40, s154_41, s154_42, s154_45, s154_46, s154_49, s154_52, s154_53, s154_56, mis, mg1, mg2, mg3, mg4, mg5, mg6, mg7, mg8, mg9, mg10, mg11, mg12, mg13, mg14, mg15, mg16, mg17, mg18, mg19, mg20, mg21, mg22, ms1, ms2, ms3, ms4, ms5, ms6, ms7, ms8, ms9, ms10, ms11, ms12, ms13, ms14, ms15, ms16, ms17, ms18, ms19, ms20, ms21, ms22, mf0, mf1, mf2, mf3, mf4, mf5, mf6, mf7, mf8, mf9, mf10, mf11, mf12, mf13, mf14, mf15, mf16, mf17, mf18, mf19, mf20, mf21, mf22, mf23, mf24, mf25, mf26, mp4, mp7, mp22, mp25, mp26, mq_0, al_I, as_I, zl_Z, zs_0, zs_1, Nat.reduceAdd, Nat.reduceLeDiff, Nat.zero_le, cat_0, cat_i, cat_r, opt_n, opt_s, true_and, nI_add, pk_mul, ua_ua, ua_s, ua_n, not_false_eq_true, Nat.reduceEqDiff, r_isCell h1 h2 hS.1, r_inW, if_pos hx, if_neg hy, i10, i10n, not_true_eq_false, if_false, if_true]
      exact hX A mKeep.rfl'
  · rw [if_neg (fun q => hx q.1)] at hX
    simp only [s154_0, s154_1, s154_2, s154_5, s154_8, s154_9, s154_10, s154_11, s154_14, s154_17, s154_19, s154_20, s154_21, s154_22, s154_25, s154_26, s154_29, s154_30, s154_33, s154_34, s154_37, s154_40, s154_41, s154_42, s154_45, s154_46, s154_49, s154_52, s154_53, s154_56, mis, mg1, mg2, mg3, mg4, mg5, mg6, mg7, mg8, mg9, mg10, mg11, mg12, mg13, mg14, mg15, mg16, mg17, mg18, mg19, mg20, mg21, mg22, ms1, ms2, ms3, ms4, ms5, ms6, ms7, ms8, ms9, ms10, ms11, ms12, ms13, ms14, ms15, ms16, ms17, ms18, ms19, ms20, ms21, ms22, mf0, mf1, mf2, mf3, mf4, mf5, mf6, mf7, mf8, mf9, mf10, mf11, mf12, mf13, mf14, mf15, mf16, mf17, mf18, mf19, mf20, mf21, mf22, mf23, mf24, mf25, mf26, mp4, mp7, mp22, mp25, mp26, mq_0, al_I, as_I, zl_Z, zs_0, zs_1, Nat.reduceAdd, Nat.reduceLeDiff, Nat.zero_le, cat_0, cat_i, cat_r, opt_n, opt_s, true_and, nI_add, pk_mul, ua_ua, ua_s, ua_n, not_false_eq_true, Nat.reduceEqDiff, r_isCell h1 h2 hS.1, if_neg hx, i10, i10n, not_true_eq_false, if_false, if_true]
    exact hX A mKeep.rfl'
end M14
