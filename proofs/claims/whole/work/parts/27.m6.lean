/-! THE REFERENCE: of, joined, stack, way -/
theorem nI_or (a b : Nat) : nI a ||| nI b = nI (a ||| b) := by
  apply Int32.toBitVec_inj.mp
  rw [Int32.toBitVec_or]
  exact (BitVec.ofNat_or ..).symm
theorem or_lt {a b : Nat} (ha : a < 1024) (hb : b < 1024) : a ||| b < 1024 := Nat.or_lt_two_pow (n := 10) ha hb
/-- what is no more than scratch may have changed -/
def mKeep (A B : Nat → Nat → Int32) : Prop := B 0 0 = A 0 0 ∧ B 0 1 = A 0 1 ∧ ∀ k, 1 ≤ k → k ≤ 8 → B k = A k
theorem mKeep.rfl' {A : Nat → Nat → Int32} : mKeep A A := ⟨rfl, rfl, fun _ _ _ => rfl⟩
theorem mKeep.trans {A B D : Nat → Nat → Int32} (h : mKeep A B) (k : mKeep B D) : mKeep A D := ⟨k.1.trans h.1, k.2.1.trans h.2.1, fun q q1 q2 => (k.2.2 q q1 q2).trans (h.2.2 q q1 q2)⟩
theorem mKeep.uk {A B : Nat → Nat → Int32} {k : Nat} {f : Nat → Int32} (h : mKeep A B) (hk : 9 ≤ k) : mKeep A (ua B k f) := ⟨by rw [ua_n (by omega)]; exact h.1, by rw [ua_n (by omega)]; exact h.2.1, fun q q1 q2 => by rw [ua_n (by omega)]; exact h.2.2 q q1 q2⟩
theorem mKeep.u0 {A B : Nat → Nat → Int32} {j : Nat} {x : Int32} (h : mKeep A B) (hj : 2 ≤ j) : mKeep A (ua B 0 (upd (B 0) j x)) := ⟨by rw [ua_s, pk_un (by omega)]; exact h.1, by rw [ua_s, pk_un (by omega)]; exact h.2.1, fun q q1 q2 => by rw [ua_n (by omega)]; exact h.2.2 q q1 q2⟩
theorem mTab.keep {v : Nat} {A B : Nat → Nat → Int32} (hT : mTab v A) (h : mKeep A B) : mTab v B := by
  unfold mTab
  rw [h.2.1, h.2.2 5 (by decide) (by decide), h.2.2 6 (by decide) (by decide), h.2.2 7 (by decide) (by decide), h.2.2 8 (by decide) (by decide)]
  exact hT
theorem mKeep.one {A B : Nat → Nat → Int32} (h : mKeep A B) : B 1 = A 1 := h.2.2 1 (by decide) (by decide)
def thF (v d : Nat) : Nat → Nat → Nat → Nat
  | 0, _, acc => acc
  | n + 1, p, acc => thF v d n (p + 1) (acc + (if v ≤ tR v d p then 1 else 0))
def clw (v d : Nat) : Nat → Nat → Nat → Option Nat
  | 0, _, _ => none
  | n + 1, at', met => if met / 2 ^ at' % 2 = 0 then clw v d n (2 * v - 1 - tR v d at') (met ||| (2 ^ at' ||| 2 ^ tR v d at')) else some (met ||| 2 ^ at')
def clo (v d : Nat) : Nat → Nat → Nat → Nat → Option Nat
  | 0, _, _, c => some c
  | n + 1, p, met, c => if met / 2 ^ p % 2 = 0 then (match clw v d 10 p met with
    | some m => clo v d n (p + 1) m (c + 1)
    | none => none) else clo v d n (p + 1) met c
theorem tOf_k : all5 (fun v => allN (tC v) (fun d => decide (thF v d v 0 0 = tTh v d) && decide (clo v d v 0 0 0 = some (tCl v d)) && allN (2 * v) (fun j => decide (2 * v - 1 - tR v d (2 * v - 1 - j) = tR v (tTu v d) j)))) = true := by decide +kernel
theorem tOf {v d : Nat} (h1 : 1 ≤ v) (h2 : v ≤ 5) (hd : d < tC v) : thF v d v 0 0 = tTh v d ∧ clo v d v 0 0 0 = some (tCl v d) ∧ ∀ j, j < 2 * v → 2 * v - 1 - tR v d (2 * v - 1 - j) = tR v (tTu v d) j := by
  have := allN_of (all5_of tOf_k h1 h2) hd
  rw [Bool.and_eq_true, Bool.and_eq_true, decide_eq_true_eq, decide_eq_true_eq] at this
  exact ⟨this.1.1, this.1.2, fun j hj => of_decide_eq_true (allN_of this.2 hj)⟩
def tWp (v d : Nat) : Nat := ((tWave v).takeWhile (fun x => decide (x ≠ d))).length
def tLw (v k i : Nat) : Nat := 1 + ((List.range (tC v)).filter (fun d => decide (d ≠ 0) && (decide (tWp v (tBf v d) < k) || (decide (tWp v (tBf v d) = k) && decide (tLh v d < i))))).length
theorem tLw_k : all5 (fun v => decide (tLw v 0 1 = 1 ∧ tLw v (tC v) 1 = tC v ∧ tWv v 0 = 0 ∧ tWp v 0 = 0 ∧ tStep v 0 = 0) && allN (tC v) (fun k => decide (k < tLw v k 1 ∧ tLw v k v = tLw v (k + 1) 1 ∧ tLw v k 1 ≤ tC v ∧ tWp v (tWv v k) = k ∧ tWp v k < tC v ∧ tWv v (tWp v k) = k) && allN v (fun i => decide (i = 0) || (if tWp v (tP v (tWv v k) (tHk v i)) < tLw v k i then decide (tLw v k (i + 1) = tLw v k i) else decide (tLw v k i < tC v ∧ tLw v k (i + 1) = tLw v k i + 1 ∧ tWp v (tP v (tWv v k) (tHk v i)) = tLw v k i ∧ tWv v (tLw v k i) = tP v (tWv v k) (tHk v i) ∧ tStep v (tP v (tWv v k) (tHk v i)) = tStep v (tWv v k) + 1 ∧ tBf v (tP v (tWv v k) (tHk v i)) = tWv v k ∧ tLh v (tP v (tWv v k) (tHk v i)) = i))))) = true := by decide +kernel
theorem tLw0 {v : Nat} (h1 : 1 ≤ v) (h2 : v ≤ 5) : tLw v 0 1 = 1 ∧ tLw v (tC v) 1 = tC v ∧ tWv v 0 = 0 ∧ tWp v 0 = 0 ∧ tStep v 0 = 0 := by
  have := all5_of tLw_k h1 h2
  rw [Bool.and_eq_true, decide_eq_true_eq] at this
  exact this.1
theorem tLw1 {v k : Nat} (h1 : 1 ≤ v) (h2 : v ≤ 5) (hk : k < tC v) : k < tLw v k 1 ∧ tLw v k v = tLw v (k + 1) 1 ∧ tLw v k 1 ≤ tC v ∧ tWp v (tWv v k) = k ∧ tWp v k < tC v ∧ tWv v (tWp v k) = k := by
  have := all5_of tLw_k h1 h2
  rw [Bool.and_eq_true] at this
  have := allN_of this.2 hk
  rw [Bool.and_eq_true, decide_eq_true_eq] at this
  exact this.1
theorem tLw2 {v k i : Nat} (h1 : 1 ≤ v) (h2 : v ≤ 5) (hk : k < tC v) (hi1 : 1 ≤ i) (hi : i < v) : if tWp v (tP v (tWv v k) (tHk v i)) < tLw v k i then tLw v k (i + 1) = tLw v k i else tLw v k i < tC v ∧ tLw v k (i + 1) = tLw v k i + 1 ∧ tWp v (tP v (tWv v k) (tHk v i)) = tLw v k i ∧ tWv v (tLw v k i) = tP v (tWv v k) (tHk v i) ∧ tStep v (tP v (tWv v k) (tHk v i)) = tStep v (tWv v k) + 1 ∧ tBf v (tP v (tWv v k) (tHk v i)) = tWv v k ∧ tLh v (tP v (tWv v k) (tHk v i)) = i := by
  have := all5_of tLw_k h1 h2
  rw [Bool.and_eq_true] at this
  have := allN_of this.2 hk
  rw [Bool.and_eq_true] at this
  have := allN_of this.2 hi
  rw [Bool.or_eq_true, decide_eq_true_eq] at this
  have := this.resolve_left (by omega)
  split at this
  · rename_i hc
    rw [if_pos hc]
    exact of_decide_eq_true this
  · rename_i hc
    rw [if_neg hc]
    exact of_decide_eq_true this
theorem tWp_inj {v d e : Nat} (h1 : 1 ≤ v) (h2 : v ≤ 5) (hd : d < tC v) (he : e < tC v) (h : tWp v d = tWp v e) : d = e := by
  have a := (tLw1 h1 h2 hd).2.2.2.2.2
  have b := (tLw1 h1 h2 he).2.2.2.2.2
  rw [← a, ← b, h]
/-- the way back -/
def wyb (v i : Nat) : Nat → Nat → Option Nat
  | 0, _ => none
  | n + 1, d => if tStep v d ≤ i + 1 then some d else if d = 0 then none else wyb v i n (tBf v d)
def wya (v : Nat) : Nat → Nat → Nat
  | 0, d => d
  | n + 1, d => wya v n (tBf v d)
def tWy (v d i : Nat) : Nat := tLh v (wya v (tStep v d - 1 - i) d)
theorem tWy_k : all5 (fun v => allN (tC v) (fun d => allN (tStep v d) (fun i => match wyb v i 43 d with
  | some e => decide (e < tC v ∧ e ≠ 0 ∧ tLh v e = tWy v d i)
  | none => false))) = true := by decide +kernel
theorem tWyb {v d i : Nat} (h1 : 1 ≤ v) (h2 : v ≤ 5) (hd : d < tC v) (hi : i < tStep v d) : ∃ e, wyb v i 43 d = some e ∧ e < tC v ∧ e ≠ 0 ∧ tLh v e = tWy v d i := by
  have q := allN_of (allN_of (all5_of tWy_k h1 h2) hd) hi
  cases hw : wyb v i 43 d with
  | none => rw [hw] at q; cases q
  | some e => rw [hw] at q; exact ⟨e, rfl, of_decide_eq_true q⟩
section M6
variable {M : Nat} {A : Nat → Nat → Int32} {g h : ex_Hp} {X : Option Value → ex_Hp → Prop} {v a b d : Nat} {f0 : Nat → Int32}
theorem r_isDiagram {x : Int32} (h1 : 1 ≤ v) (h2 : v ≤ 5) (hT : mTab v A) : ex_W 104 0 [.ref M, .int x] [] (mdl M A g) X ↔ X (some (.int (if nI 0 ≤ x ∧ x ≤ nI (tC v - 1) then nI 1 else nI 0))) (mdl M A g) := by
  have hC := tC_le h1 h2
  simp only [s104_0, s104_1, s104_2, s104_3, s104_6, s104_7, s104_8, s104_11, mis, mg1, mg2, mg3, mg4, mg5, mg6, mg7, mg8, mg9, mg10, mg11, mg12, mg13, mg14, mg15, mg16, mg17, mg18, mg19, mg20, mg21, mg22, ms1, ms2, ms3, ms4, ms5, ms6, ms7, ms8, ms9, ms10, ms11, ms12, ms13, ms14, ms15, ms16, ms17, ms18, ms19, ms20, ms21, ms22, mf0, mf1, mf2, mf3, mf4, mf5, mf6, mf7, mf8, mf9, mf10, mf11, mf12, mf13, mf14, mf15, mf16, mf17, mf18, mf19, mf20, mf21, mf22, mf23, mf24, mf25, mf26, mp4, mp7, mp22, mp25, mp26, mq_0, al_I, as_I, zl_Z, zs_0, zs_1, Nat.reduceAdd, Nat.reduceLeDiff, Nat.zero_le, cat_0, cat_i, cat_r, opt_n, opt_s, true_and, nI_add, pk_mul, ua_ua, ua_s, ua_n, not_false_eq_true, Nat.reduceEqDiff, r_in, hT.1, pk_sub hC.1]
  constructor
  · exact fun z => z.2
  · refine fun z => ⟨?_, z⟩
    split
    · exact Or.inr rfl
    · exact Or.inl rfl
theorem r_isSlot {x : Int32} : ex_W 105 0 [.int x] [] h X ↔ X (some (.int (if nI 0 ≤ x ∧ x ≤ nI 4 then nI 1 else nI 0))) h := by
  simp only [s105_0, s105_1, s105_2, s105_3, s105_6, mis, mg1, mg2, mg3, mg4, mg5, mg6, mg7, mg8, mg9, mg10, mg11, mg12, mg13, mg14, mg15, mg16, mg17, mg18, mg19, mg20, mg21, mg22, ms1, ms2, ms3, ms4, ms5, ms6, ms7, ms8, ms9, ms10, ms11, ms12, ms13, ms14, ms15, ms16, ms17, ms18, ms19, ms20, ms21, ms22, mf0, mf1, mf2, mf3, mf4, mf5, mf6, mf7, mf8, mf9, mf10, mf11, mf12, mf13, mf14, mf15, mf16, mf17, mf18, mf19, mf20, mf21, mf22, mf23, mf24, mf25, mf26, mp4, mp7, mp22, mp25, mp26, mq_0, al_I, as_I, zl_Z, zs_0, zs_1, Nat.reduceAdd, Nat.reduceLeDiff, Nat.zero_le, cat_0, cat_i, cat_r, opt_n, opt_s, true_and, nI_add, pk_mul, ua_ua, ua_s, ua_n, not_false_eq_true, Nat.reduceEqDiff, r_in]
  constructor
  · exact fun z => z.2
  · refine fun z => ⟨?_, z⟩
    split
    · exact Or.inr rfl
    · exact Or.inl rfl
theorem l_th (h1 : 1 ≤ v) (h2 : v ≤ 5) (hd : d < tC v) (hv : A 1 0 = nI v) (hT : mTab v A) : ∀ (n p acc : Nat), n + p = v → X (some (.int (nI (thF v d n p acc)))) (mdl M A g) → ex_W 118 4 [.ref M, .int (nI d), .int (nI acc), .int (nI p)] [] (mdl M A g) X := by
  have hC := tC_le h1 h2
  intro n
  induction n with
  | zero =>
    intro p acc hn hX
    rw [s118_4]
    simp only [s118_0, s118_1, s118_2, s118_3, s118_5, s118_6, s118_9, s118_10, s118_11, s118_14, s118_15, s118_16, s118_17, s118_18, s118_21, s118_22, s118_25, s118_26, s118_27, s118_30, s118_31, s118_34, s118_35, s118_36, s118_37, s118_40, s118_43, s118_44, mis, mg1, mg2, mg3, mg4, mg5, mg6, mg7, mg8, mg9, mg10, mg11, mg12, mg13, mg14, mg15, mg16, mg17, mg18, mg19, mg20, mg21, mg22, ms1, ms2, ms3, ms4, ms5, ms6, ms7, ms8, ms9, ms10, ms11, ms12, ms13, ms14, ms15, ms16, ms17, ms18, ms19, ms20, ms21, ms22, mf0, mf1, mf2, mf3, mf4, mf5, mf6, mf7, mf8, mf9, mf10, mf11, mf12, mf13, mf14, mf15, mf16, mf17, mf18, mf19, mf20, mf21, mf22, mf23, mf24, mf25, mf26, mp4, mp7, mp22, mp25, mp26, mq_0, al_I, as_I, zl_Z, zs_0, zs_1, Nat.reduceAdd, Nat.reduceLeDiff, Nat.zero_le, cat_0, cat_i, cat_r, opt_n, opt_s, true_and, nI_add, pk_mul, ua_ua, ua_s, ua_n, not_false_eq_true, Nat.reduceEqDiff, hv, xi_n (show 0 < 213 by omega) (show 213 < 2147483648 by decide)]
    rw [if_pos ((nI_l1 (by omega) (by omega)).mpr (by omega))]
    exact hX
  | succ n ih =>
    intro p acc hn hX
    rw [thF] at hX
    have hr := tR_lt h1 h2 hd (show p < 2 * v by omega)
    rw [s118_4]
    simp only [s118_0, s118_1, s118_2, s118_3, s118_5, s118_6, s118_9, s118_10, s118_11, s118_14, s118_15, s118_16, s118_17, s118_18, s118_21, s118_22, s118_25, s118_26, s118_27, s118_30, s118_31, s118_34, s118_35, s118_36, s118_37, s118_40, s118_43, s118_44, mis, mg1, mg2, mg3, mg4, mg5, mg6, mg7, mg8, mg9, mg10, mg11, mg12, mg13, mg14, mg15, mg16, mg17, mg18, mg19, mg20, mg21, mg22, ms1, ms2, ms3, ms4, ms5, ms6, ms7, ms8, ms9, ms10, ms11, ms12, ms13, ms14, ms15, ms16, ms17, ms18, ms19, ms20, ms21, ms22, mf0, mf1, mf2, mf3, mf4, mf5, mf6, mf7, mf8, mf9, mf10, mf11, mf12, mf13, mf14, mf15, mf16, mf17, mf18, mf19, mf20, mf21, mf22, mf23, mf24, mf25, mf26, mp4, mp7, mp22, mp25, mp26, mq_0, al_I, as_I, zl_Z, zs_0, zs_1, Nat.reduceAdd, Nat.reduceLeDiff, Nat.zero_le, cat_0, cat_i, cat_r, opt_n, opt_s, true_and, nI_add, pk_mul, ua_ua, ua_s, ua_n, not_false_eq_true, Nat.reduceEqDiff, hv, xi_n (show 0 < 213 by omega) (show 213 < 2147483648 by decide), r_to (show 10 * d + p < 420 by omega), hT.2.1 d hd p (by omega)]
    rw [if_neg (fun z => absurd ((nI_l1 (by omega) (by omega)).mp z) (by omega))]
    by_cases hc : v ≤ tR v d p
    · rw [if_pos hc] at hX
      rw [if_neg (fun z => absurd ((nI_l2 (by omega) (by omega)).mp z) (by omega))]
      exact ih (p + 1) _ (by omega) hX
    · rw [if_neg hc] at hX
      rw [if_pos ((nI_l2 (by omega) (by omega)).mpr (by omega))]
      exact ih (p + 1) _ (by omega) hX
theorem r_through (h1 : 1 ≤ v) (h2 : v ≤ 5) (hd : d < tC v) (hv : A 1 0 = nI v) (hT : mTab v A) (hX : X (some (.int (nI (tTh v d)))) (mdl M A g)) : ex_W 118 0 [.ref M, .int (nI d), oU, oU] [] (mdl M A g) X := by
  rw [s118_0, s118_1, s118_2, s118_3]
  refine l_th h1 h2 hd hv hT v 0 0 (by omega) ?_
  rw [(tOf h1 h2 hd).1]
  exact hX
theorem bit_e {met p : Nat} (hm : met < 1024) (hp : p < 10) : nI met >>> (nI p &&& 31) &&& nI 1 = nI (met / 2 ^ p % 2) := by
  rw [sh_n (by omega) (by omega), and_1 (by have := Nat.div_le_self met (2 ^ p); omega)]
theorem p2_lt {p : Nat} (hp : p < 10) : 2 ^ p < 1024 := Nat.pow_lt_pow_right (by decide) hp
theorem shl_1 {p : Nat} (hp : p < 10) : nI 1 <<< (nI p &&& 31) = nI (2 ^ p) := by
  have := p2_lt hp
  rw [shl_n (by omega) (by omega), Nat.one_mul]
theorem l_clw {l3 l4 : Value} (h1 : 1 ≤ v) (h2 : v ≤ 5) (hd : d < tC v) (hv : A 1 0 = nI v) (hT : mTab v A) : ∀ (n at' met m : Nat) (l6 : Value), at' < 2 * v → met < 1024 → clw v d n at' met = some m → (m < 1024 → ∀ l5 l6, ex_W 119 82 [.ref M, .int (nI d), .int (nI m), l3, l4, l5, l6] [] (mdl M A g) X) → ex_W 119 34 [.ref M, .int (nI d), .int (nI met), l3, l4, .int (nI at'), l6] [] (mdl M A g) X := by
  have hC := tC_le h1 h2
  intro n
  induction n with
  | zero => intro at' met m l6 ha hm he; cases he
  | succ n ih =>
    intro at' met m l6 ha hm he hX
    rw [clw] at he
    have hr := tR_lt h1 h2 hd ha
    have hp1 := p2_lt (show at' < 10 by omega)
    have hp2 := p2_lt (show tR v d at' < 10 by omega)
    have e1 : nI (2 * v) - nI 1 - nI (tR v d at') = nI (2 * v - 1 - tR v d at') := by rw [pk_sub (by omega), pk_sub (by omega)]
    rw [s119_34]
    simp only [s119_0, s119_1, s119_2, s119_3, s119_4, s119_5, s119_7, s119_9, s119_10, s119_13, s119_14, s119_15, s119_18, s119_19, s119_21, s119_22, s119_23, s119_24, s119_27, s119_30, s119_32, s119_35, s119_37, s119_38, s119_39, s119_40, s119_43, s119_44, s119_45, s119_47, s119_50, s119_52, s119_53, s119_54, s119_56, s119_57, s119_58, s119_60, s119_61, s119_62, s119_63, s119_64, s119_65, s119_67, s119_70, s119_72, s119_75, s119_76, s119_77, s119_79, s119_80, s119_81, s119_85, s119_88, s119_89, mis, mg1, mg2, mg3, mg4, mg5, mg6, mg7, mg8, mg9, mg10, mg11, mg12, mg13, mg14, mg15, mg16, mg17, mg18, mg19, mg20, mg21, mg22, ms1, ms2, ms3, ms4, ms5, ms6, ms7, ms8, ms9, ms10, ms11, ms12, ms13, ms14, ms15, ms16, ms17, ms18, ms19, ms20, ms21, ms22, mf0, mf1, mf2, mf3, mf4, mf5, mf6, mf7, mf8, mf9, mf10, mf11, mf12, mf13, mf14, mf15, mf16, mf17, mf18, mf19, mf20, mf21, mf22, mf23, mf24, mf25, mf26, mp4, mp7, mp22, mp25, mp26, mq_0, al_I, as_I, zl_Z, zs_0, zs_1, Nat.reduceAdd, Nat.reduceLeDiff, Nat.zero_le, cat_0, cat_i, cat_r, opt_n, opt_s, true_and, nI_add, pk_mul, ua_ua, ua_s, ua_n, not_false_eq_true, Nat.reduceEqDiff, bit_e hm (show at' < 10 by omega), shl_1 (show at' < 10 by omega), r_to (show 10 * d + at' < 420 by omega), hT.2.1 d hd at' ha, shl_1 (show tR v d at' < 10 by omega), nI_or, r_across, hv, e1]
    by_cases hc : met / 2 ^ at' % 2 = 0
    · rw [if_pos hc] at he
      rw [if_neg (fun z => z (by rw [hc]))]
      exact ih _ _ m _ (by omega) (or_lt hm (or_lt hp1 hp2)) he hX
    · rw [if_neg hc] at he
      cases he
      rw [if_pos (fun z => hc ((nI_e (by omega) (by omega)).mp z))]
      exact hX (or_lt hm hp1) _ _
theorem l_clo (h1 : 1 ≤ v) (h2 : v ≤ 5) (hd : d < tC v) (hv : A 1 0 = nI v) (hT : mTab v A) {res : Nat} (hX : X (some (.int (nI res))) (mdl M A g)) : ∀ (n p met c : Nat) (l5 l6 : Value), n + p = v → met < 1024 → clo v d n p met c = some res → ex_W 119 7 [.ref M, .int (nI d), .int (nI met), .int (nI c), .int (nI p), l5, l6] [] (mdl M A g) X := by
  have hC := tC_le h1 h2
  intro n
  induction n with
  | zero =>
    intro p met c l5 l6 hn hm he
    cases he
    rw [s119_7]
    simp only [s119_0, s119_1, s119_2, s119_3, s119_4, s119_5, s119_9, s119_10, s119_13, s119_14, s119_15, s119_18, s119_19, s119_21, s119_22, s119_23, s119_24, s119_27, s119_30, s119_32, s119_35, s119_37, s119_38, s119_39, s119_40, s119_43, s119_44, s119_45, s119_47, s119_50, s119_52, s119_53, s119_54, s119_56, s119_57, s119_58, s119_60, s119_61, s119_62, s119_63, s119_64, s119_65, s119_67, s119_70, s119_72, s119_75, s119_76, s119_77, s119_79, s119_80, s119_81, s119_82, s119_85, s119_88, s119_89, mis, mg1, mg2, mg3, mg4, mg5, mg6, mg7, mg8, mg9, mg10, mg11, mg12, mg13, mg14, mg15, mg16, mg17, mg18, mg19, mg20, mg21, mg22, ms1, ms2, ms3, ms4, ms5, ms6, ms7, ms8, ms9, ms10, ms11, ms12, ms13, ms14, ms15, ms16, ms17, ms18, ms19, ms20, ms21, ms22, mf0, mf1, mf2, mf3, mf4, mf5, mf6, mf7, mf8, mf9, mf10, mf11, mf12, mf13, mf14, mf15, mf16, mf17, mf18, mf19, mf20, mf21, mf22, mf23, mf24, mf25, mf26, mp4, mp7, mp22, mp25, mp26, mq_0, al_I, as_I, zl_Z, zs_0, zs_1, Nat.reduceAdd, Nat.reduceLeDiff, Nat.zero_le, cat_0, cat_i, cat_r, opt_n, opt_s, true_and, nI_add, pk_mul, ua_ua, ua_s, ua_n, not_false_eq_true, Nat.reduceEqDiff, hv, xi_n (show 0 < 213 by omega) (show 213 < 2147483648 by decide)]
    rw [if_pos ((nI_l1 (by omega) (by omega)).mpr (by omega))]
    exact hX
  | succ n ih =>
    intro p met c l5 l6 hn hm he
    rw [clo] at he
    rw [s119_7]
    simp only [s119_0, s119_1, s119_2, s119_3, s119_4, s119_5, s119_9, s119_10, s119_13, s119_14, s119_15, s119_18, s119_19, s119_21, s119_22, s119_23, s119_24, s119_27, s119_30, s119_32, s119_35, s119_37, s119_38, s119_39, s119_40, s119_43, s119_44, s119_45, s119_47, s119_50, s119_52, s119_53, s119_54, s119_56, s119_57, s119_58, s119_60, s119_61, s119_62, s119_63, s119_64, s119_65, s119_67, s119_70, s119_72, s119_75, s119_76, s119_77, s119_79, s119_80, s119_81, s119_85, s119_88, s119_89, mis, mg1, mg2, mg3, mg4, mg5, mg6, mg7, mg8, mg9, mg10, mg11, mg12, mg13, mg14, mg15, mg16, mg17, mg18, mg19, mg20, mg21, mg22, ms1, ms2, ms3, ms4, ms5, ms6, ms7, ms8, ms9, ms10, ms11, ms12, ms13, ms14, ms15, ms16, ms17, ms18, ms19, ms20, ms21, ms22, mf0, mf1, mf2, mf3, mf4, mf5, mf6, mf7, mf8, mf9, mf10, mf11, mf12, mf13, mf14, mf15, mf16, mf17, mf18, mf19, mf20, mf21, mf22, mf23, mf24, mf25, mf26, mp4, mp7, mp22, mp25, mp26, mq_0, al_I, as_I, zl_Z, zs_0, zs_1, Nat.reduceAdd, Nat.reduceLeDiff, Nat.zero_le, cat_0, cat_i, cat_r, opt_n, opt_s, true_and, nI_add, pk_mul, ua_ua, ua_s, ua_n, not_false_eq_true, Nat.reduceEqDiff, hv, xi_n (show 0 < 213 by omega) (show 213 < 2147483648 by decide), bit_e hm (show p < 10 by omega)]
    rw [if_neg (fun z => absurd ((nI_l1 (by omega) (by omega)).mp z) (by omega))]
    by_cases hc : met / 2 ^ p % 2 = 0
    · rw [if_pos hc] at he
      rw [if_neg (fun z => z (by rw [hc]))]
      cases hw : clw v d 10 p met with
      | none => rw [hw] at he; cases he
      | some m =>
        rw [hw] at he
        refine l_clw h1 h2 hd hv hT 10 p met m _ (by omega) hm hw (fun hm2 l5 l6 => ?_)
        simp only [s119_82, s119_85, nI_add]
        exact ih (p + 1) m (c + 1) _ _ (by omega) hm2 he
    · rw [if_neg hc] at he
      rw [if_pos (fun z => hc ((nI_e (by omega) (by omega)).mp z))]
      simp only [s119_82, s119_85, nI_add]
      exact ih (p + 1) met c _ _ (by omega) hm he
theorem r_closedLoops (h1 : 1 ≤ v) (h2 : v ≤ 5) (hd : d < tC v) (hv : A 1 0 = nI v) (hT : mTab v A) (hX : X (some (.int (nI (tCl v d)))) (mdl M A g)) : ex_W 119 0 [.ref M, .int (nI d), oU, oU, oU, oU, oU] [] (mdl M A g) X := by
  rw [s119_0, s119_1, s119_2, s119_3, s119_4, s119_5]
  exact l_clo h1 h2 hd hv hT hX v 0 0 0 _ _ (by omega) (by decide) (tOf h1 h2 hd).2.1
theorem l_tu (h1 : 1 ≤ v) (h2 : v ≤ 5) (hd : d < tC v) (hv : A 1 0 = nI v) (hT : mTab v A) (hX : ∀ f : Nat → Int32, X (some (.int (nI (tTu v d)))) (mdl M (ua A 9 f) g)) : ∀ (n p : Nat) (f : Nat → Int32), n + p = 2 * v → (∀ j, j < 2 * v → 2 * v ≤ p + j → f j = nI (tR v (tTu v d) j)) → ex_W 120 2 [.ref M, .int (nI d), .int (nI p)] [] (mdl M (ua A 9 f) g) X := by
  have hC := tC_le h1 h2
  have hT0 : ∀ f, mTab v (ua A 9 f) := fun f => hT.ua (by decide) (by decide) (by decide) (by decide) (by decide)
  intro n
  induction n with
  | zero =>
    intro p f hn hf
    rw [s120_2]
    simp only [s120_0, s120_1, s120_3, s120_4, s120_7, s120_10, s120_11, s120_14, s120_15, s120_16, s120_19, s120_20, s120_21, s120_22, s120_23, s120_26, s120_29, s120_30, s120_33, s120_36, s120_37, s120_40, mis, mg1, mg2, mg3, mg4, mg5, mg6, mg7, mg8, mg9, mg10, mg11, mg12, mg13, mg14, mg15, mg16, mg17, mg18, mg19, mg20, mg21, mg22, ms1, ms2, ms3, ms4, ms5, ms6, ms7, ms8, ms9, ms10, ms11, ms12, ms13, ms14, ms15, ms16, ms17, ms18, ms19, ms20, ms21, ms22, mf0, mf1, mf2, mf3, mf4, mf5, mf6, mf7, mf8, mf9, mf10, mf11, mf12, mf13, mf14, mf15, mf16, mf17, mf18, mf19, mf20, mf21, mf22, mf23, mf24, mf25, mf26, mp4, mp7, mp22, mp25, mp26, mq_0, al_I, as_I, zl_Z, zs_0, zs_1, Nat.reduceAdd, Nat.reduceLeDiff, Nat.zero_le, cat_0, cat_i, cat_r, opt_n, opt_s, true_and, nI_add, pk_mul, ua_ua, ua_s, ua_n, not_false_eq_true, Nat.reduceEqDiff, r_points, hv]
    rw [if_pos ((nI_l1 (by omega) (by omega)).mpr (by omega))]
    have ht := (tTu_lt h1 h2 hd).1
    refine r_indexOfRow h1 h2 ht (by rw [ua_n (by decide)]; exact hv) (fun j hj => ?_) ((hT0 _).2.2.1 _ ht) ?_
    · rw [ua_s]
      exact hf j hj (by omega)
    · simp only [s120_0, s120_1, s120_3, s120_4, s120_7, s120_10, s120_11, s120_14, s120_15, s120_16, s120_19, s120_20, s120_21, s120_22, s120_23, s120_26, s120_29, s120_30, s120_33, s120_36, s120_37, s120_40, mis, mg1, mg2, mg3, mg4, mg5, mg6, mg7, mg8, mg9, mg10, mg11, mg12, mg13, mg14, mg15, mg16, mg17, mg18, mg19, mg20, mg21, mg22, ms1, ms2, ms3, ms4, ms5, ms6, ms7, ms8, ms9, ms10, ms11, ms12, ms13, ms14, ms15, ms16, ms17, ms18, ms19, ms20, ms21, ms22, mf0, mf1, mf2, mf3, mf4, mf5, mf6, mf7, mf8, mf9, mf10, mf11, mf12, mf13, mf14, mf15, mf16, mf17, mf18, mf19, mf20, mf21, mf22, mf23, mf24, mf25, mf26, mp4, mp7, mp22, mp25, mp26, mq_0, al_I, as_I, zl_Z, zs_0, zs_1, Nat.reduceAdd, Nat.reduceLeDiff, Nat.zero_le, cat_0, cat_i, cat_r, opt_n, opt_s, true_and, nI_add, pk_mul, ua_ua, ua_s, ua_n, not_false_eq_true, Nat.reduceEqDiff]
      exact hX f
  | succ n ih =>
    intro p f hn hf
    have hr := tR_lt h1 h2 hd (show p < 2 * v by omega)
    have e1 : nI (2 * v) - nI 1 - nI p = nI (2 * v - 1 - p) := by rw [pk_sub (by omega), pk_sub (by omega)]
    have e2 : nI (2 * v) - nI 1 - nI (tR v d p) = nI (2 * v - 1 - tR v d p) := by rw [pk_sub (by omega), pk_sub (by omega)]
    have e3 := (tOf h1 h2 hd).2.2 (2 * v - 1 - p) (by omega)
    rw [show 2 * v - 1 - (2 * v - 1 - p) = p by omega] at e3
    rw [s120_2]
    simp only [s120_0, s120_1, s120_3, s120_4, s120_7, s120_10, s120_11, s120_14, s120_15, s120_16, s120_19, s120_20, s120_21, s120_22, s120_23, s120_26, s120_29, s120_30, s120_33, s120_36, s120_37, s120_40, mis, mg1, mg2, mg3, mg4, mg5, mg6, mg7, mg8, mg9, mg10, mg11, mg12, mg13, mg14, mg15, mg16, mg17, mg18, mg19, mg20, mg21, mg22, ms1, ms2, ms3, ms4, ms5, ms6, ms7, ms8, ms9, ms10, ms11, ms12, ms13, ms14, ms15, ms16, ms17, ms18, ms19, ms20, ms21, ms22, mf0, mf1, mf2, mf3, mf4, mf5, mf6, mf7, mf8, mf9, mf10, mf11, mf12, mf13, mf14, mf15, mf16, mf17, mf18, mf19, mf20, mf21, mf22, mf23, mf24, mf25, mf26, mp4, mp7, mp22, mp25, mp26, mq_0, al_I, as_I, zl_Z, zs_0, zs_1, Nat.reduceAdd, Nat.reduceLeDiff, Nat.zero_le, cat_0, cat_i, cat_r, opt_n, opt_s, true_and, nI_add, pk_mul, ua_ua, ua_s, ua_n, not_false_eq_true, Nat.reduceEqDiff, r_points, hv, r_across, e1, r_to (show 10 * d + p < 420 by omega), hT.2.1 d hd p (by omega), e2, xi_n (show 2 * v - 1 - p < 10 by omega) (show 10 < 2147483648 by decide), e3]
    rw [if_neg (fun z => absurd ((nI_l1 (by omega) (by omega)).mp z) (by omega))]
    refine ih (p + 1) _ (by omega) (fun j hj hj2 => ?_)
    by_cases hj3 : j = 2 * v - 1 - p
    · rw [hj3, pk_us]
    · rw [pk_un hj3]
      exact hf j hj (by omega)
theorem r_turnedOf (h1 : 1 ≤ v) (h2 : v ≤ 5) (hd : d < tC v) (hv : A 1 0 = nI v) (hT : mTab v A) (hX : ∀ f : Nat → Int32, X (some (.int (nI (tTu v d)))) (mdl M (ua A 9 f) g)) : ex_W 120 0 [.ref M, .int (nI d), oU] [] (mdl M A g) X := by
  rw [s120_0, s120_1]
  have := l_tu (M := M) (A := A) (g := g) (X := X) h1 h2 hd hv hT hX (2 * v) 0 (A 9) (by omega) (fun j hj hj2 => by omega)
  rw [ua_id] at this
  exact this
def wInv (v w : Nat) (B : Nat → Nat → Int32) : Prop := (∀ j, j < w → B 12 j = nI (tWv v j)) ∧ (∀ d, d < tC v → B 15 d = if tWp v d < w then nI (tStep v d) else -6) ∧ (∀ d, d < tC v → ¬ d = 0 → tWp v d < w → B 13 d = nI (tBf v d) ∧ B 14 d = nI (tLh v d))
theorem wInv.u9 {w : Nat} {f : Nat → Int32} (hw : wInv v w A) : wInv v w (ua A 9 f) := by
  unfold wInv
  rw [ua_n (by decide), ua_n (by decide), ua_n (by decide), ua_n (by decide)]
  exact hw
theorem l_lw49 {k : Nat} {A0 : Nat → Nat → Int32} (h1 : 1 ≤ v) (h2 : v ≤ 5) (hk : k < tC v) (hv : A0 1 0 = nI v) (hT : mTab v A0) (hX : ∀ B l3 l4, mKeep A0 B → wInv v (tLw v k v) B → ex_W 121 149 [.ref M, .int (nI (tLw v k v)), .int (nI k), l3, l4] [] (mdl M B g) X) : ∀ (n i : Nat) (l4 : Value) (A : Nat → Nat → Int32), n + i = v → 1 ≤ i → k < tLw v k i → mKeep A0 A → wInv v (tLw v k i) A → ex_W 121 49 [.ref M, .int (nI (tLw v k i)), .int (nI k), .int (nI i), l4] [] (mdl M A g) X := by
  have hC := tC_le h1 h2
  intro n
  induction n with
  | zero =>
    intro i l4 A hn hi1 hkw hA hw
    obtain rfl : i = v := by omega
    have hv' : A 1 0 = nI i := by rw [hA.one]; exact hv
    rw [s121_49]
    simp only [s121_0, s121_1, s121_2, s121_3, s121_4, s121_7, s121_10, s121_11, s121_14, s121_15, s121_17, s121_18, s121_21, s121_24, s121_25, s121_28, s121_29, s121_30, s121_31, s121_32, s121_35, s121_36, s121_37, s121_38, s121_39, s121_40, s121_41, s121_42, s121_43, s121_44, s121_47, s121_48, s121_50, s121_51, s121_54, s121_55, s121_56, s121_59, s121_60, s121_63, s121_65, s121_66, s121_69, s121_70, s121_71, s121_72, s121_73, s121_74, s121_77, s121_78, s121_79, s121_81, s121_82, s121_85, s121_87, s121_88, s121_91, s121_92, s121_95, s121_97, s121_98, s121_101, s121_102, s121_105, s121_106, s121_107, s121_108, s121_109, s121_110, s121_111, s121_112, s121_115, s121_117, s121_118, s121_121, s121_122, s121_123, s121_124, s121_125, s121_128, s121_130, s121_131, s121_132, s121_133, s121_136, s121_137, s121_139, s121_140, s121_143, s121_146, s121_152, s121_155, mis, mg1, mg2, mg3, mg4, mg5, mg6, mg7, mg8, mg9, mg10, mg11, mg12, mg13, mg14, mg15, mg16, mg17, mg18, mg19, mg20, mg21, mg22, ms1, ms2, ms3, ms4, ms5, ms6, ms7, ms8, ms9, ms10, ms11, ms12, ms13, ms14, ms15, ms16, ms17, ms18, ms19, ms20, ms21, ms22, mf0, mf1, mf2, mf3, mf4, mf5, mf6, mf7, mf8, mf9, mf10, mf11, mf12, mf13, mf14, mf15, mf16, mf17, mf18, mf19, mf20, mf21, mf22, mf23, mf24, mf25, mf26, mp4, mp7, mp22, mp25, mp26, mq_0, al_I, as_I, zl_Z, zs_0, zs_1, Nat.reduceAdd, Nat.reduceLeDiff, Nat.zero_le, cat_0, cat_i, cat_r, opt_n, opt_s, true_and, nI_add, pk_mul, ua_ua, ua_s, ua_n, not_false_eq_true, Nat.reduceEqDiff, hv', xi_n (show 0 < 213 by omega) (show 213 < 2147483648 by decide)]
    rw [if_pos ((nI_l1 (by omega) (by omega)).mpr (by omega))]
    exact hX A _ _ hA hw
  | succ n ih =>
    intro i l4 A hn hi1 hkw hA hw
    have hv' : A 1 0 = nI v := by rw [hA.one]; exact hv
    have hT' := hT.keep hA
    have hki : i < v := by omega
    have hh := tHk_lt h1 h2 hki
    have hwk := (tTu_lt h1 h2 hk).2.2.2.2.1
    have hp := (tP_lt h1 h2 hwk hh).1
    rw [s121_49]
    simp only [s121_0, s121_1, s121_2, s121_3, s121_4, s121_7, s121_10, s121_11, s121_14, s121_15, s121_17, s121_18, s121_21, s121_24, s121_25, s121_28, s121_29, s121_30, s121_31, s121_32, s121_35, s121_36, s121_37, s121_38, s121_39, s121_40, s121_41, s121_42, s121_43, s121_44, s121_47, s121_48, s121_50, s121_51, s121_54, s121_55, s121_56, s121_59, s121_60, s121_63, s121_65, s121_66, s121_69, s121_70, s121_71, s121_72, s121_73, s121_74, s121_77, s121_78, s121_79, s121_81, s121_82, s121_85, s121_87, s121_88, s121_91, s121_92, s121_95, s121_97, s121_98, s121_101, s121_102, s121_105, s121_106, s121_107, s121_108, s121_109, s121_110, s121_111, s121_112, s121_115, s121_117, s121_118, s121_121, s121_122, s121_123, s121_124, s121_125, s121_128, s121_130, s121_131, s121_132, s121_133, s121_136, s121_137, s121_139, s121_140, s121_146, s121_152, s121_155, mis, mg1, mg2, mg3, mg4, mg5, mg6, mg7, mg8, mg9, mg10, mg11, mg12, mg13, mg14, mg15, mg16, mg17, mg18, mg19, mg20, mg21, mg22, ms1, ms2, ms3, ms4, ms5, ms6, ms7, ms8, ms9, ms10, ms11, ms12, ms13, ms14, ms15, ms16, ms17, ms18, ms19, ms20, ms21, ms22, mf0, mf1, mf2, mf3, mf4, mf5, mf6, mf7, mf8, mf9, mf10, mf11, mf12, mf13, mf14, mf15, mf16, mf17, mf18, mf19, mf20, mf21, mf22, mf23, mf24, mf25, mf26, mp4, mp7, mp22, mp25, mp26, mq_0, al_I, as_I, zl_Z, zs_0, zs_1, Nat.reduceAdd, Nat.reduceLeDiff, Nat.zero_le, cat_0, cat_i, cat_r, opt_n, opt_s, true_and, nI_add, pk_mul, ua_ua, ua_s, ua_n, not_false_eq_true, Nat.reduceEqDiff, hv', xi_n (show 0 < 213 by omega) (show 213 < 2147483648 by decide), xi_n (show k < 42 by omega) (show 42 < 2147483648 by decide), hw.1 k hkw]
    rw [if_neg (fun z => absurd ((nI_l1 (by omega) (by omega)).mp z) (by omega))]
    refine r_hook h1 h2 hv' hT' hi1 hki (fun f => ?_)
    have hA2 : mKeep A0 (ua A 9 f) := hA.uk (by decide)
    have hw2 : wInv v (tLw v k i) (ua A 9 f) := hw.u9
    revert hA2 hw2
    generalize ua A 9 f = B
    intro hB hw
    have hT' := hT.keep hB
    have h12 := hw.1 k hkw
    have h15 := hw.2.1 _ hp
    have hkw2 := hw.2.1 _ hwk
    rw [if_pos (by rw [(tLw1 h1 h2 hk).2.2.2.1]; exact hkw)] at hkw2
    have hstep := (tTu_lt h1 h2 hwk).2.2.2.2.2
    have hs := tLw2 h1 h2 hk hi1 hki
    simp only [s121_0, s121_1, s121_2, s121_3, s121_4, s121_7, s121_10, s121_11, s121_14, s121_15, s121_17, s121_18, s121_21, s121_24, s121_25, s121_28, s121_29, s121_30, s121_31, s121_32, s121_35, s121_36, s121_37, s121_38, s121_39, s121_40, s121_41, s121_42, s121_43, s121_44, s121_47, s121_48, s121_50, s121_51, s121_54, s121_55, s121_56, s121_59, s121_60, s121_63, s121_65, s121_66, s121_69, s121_70, s121_71, s121_72, s121_73, s121_74, s121_77, s121_78, s121_79, s121_81, s121_82, s121_85, s121_87, s121_88, s121_91, s121_92, s121_95, s121_97, s121_98, s121_101, s121_102, s121_105, s121_106, s121_107, s121_108, s121_109, s121_110, s121_111, s121_112, s121_115, s121_117, s121_118, s121_121, s121_122, s121_123, s121_124, s121_125, s121_128, s121_130, s121_131, s121_132, s121_133, s121_136, s121_137, s121_139, s121_140, s121_146, s121_152, s121_155, mis, mg1, mg2, mg3, mg4, mg5, mg6, mg7, mg8, mg9, mg10, mg11, mg12, mg13, mg14, mg15, mg16, mg17, mg18, mg19, mg20, mg21, mg22, ms1, ms2, ms3, ms4, ms5, ms6, ms7, ms8, ms9, ms10, ms11, ms12, ms13, ms14, ms15, ms16, ms17, ms18, ms19, ms20, ms21, ms22, mf0, mf1, mf2, mf3, mf4, mf5, mf6, mf7, mf8, mf9, mf10, mf11, mf12, mf13, mf14, mf15, mf16, mf17, mf18, mf19, mf20, mf21, mf22, mf23, mf24, mf25, mf26, mp4, mp7, mp22, mp25, mp26, mq_0, al_I, as_I, zl_Z, zs_0, zs_1, Nat.reduceAdd, Nat.reduceLeDiff, Nat.zero_le, cat_0, cat_i, cat_r, opt_n, opt_s, true_and, nI_add, pk_mul, ua_ua, ua_s, ua_n, not_false_eq_true, Nat.reduceEqDiff, xi_n (show 42 * tWv v k + tHk v i < 1764 by omega) (show 1764 < 2147483648 by decide), (hT'.2.2.2 _ hwk _ hh).1, xi_n (show tP v (tWv v k) (tHk v i) < 42 by omega) (show 42 < 2147483648 by decide), h15]
    by_cases hc : tWp v (tP v (tWv v k) (tHk v i)) < tLw v k i
    · rw [if_pos hc] at hs
      have hst := (tTu_lt h1 h2 hp).2.2.2.2.2
      rw [if_pos hc, if_pos ((nI_l1 (by omega) (by omega)).mpr (by omega))]
      simp only [s121_143, s121_146, nI_add]
      rw [← hs]
      rw [← hs] at hkw hw
      exact ih (i + 1) _ B (by omega) (by omega) hkw hB hw
    · rw [if_neg hc] at hs
      obtain ⟨c1, c2, c3, c4, c5, c6, c7⟩ := hs
      rw [if_neg hc, if_neg (by decide)]
      simp only [xi_n (show k < 42 by omega) (show 42 < 2147483648 by decide), h12, xi_n (show tWv v k < 42 by omega) (show 42 < 2147483648 by decide), hkw2, mis, mg1, mg2, mg3, mg4, mg5, mg6, mg7, mg8, mg9, mg10, mg11, mg12, mg13, mg14, mg15, mg16, mg17, mg18, mg19, mg20, mg21, mg22, ms1, ms2, ms3, ms4, ms5, ms6, ms7, ms8, ms9, ms10, ms11, ms12, ms13, ms14, ms15, ms16, ms17, ms18, ms19, ms20, ms21, ms22, mf0, mf1, mf2, mf3, mf4, mf5, mf6, mf7, mf8, mf9, mf10, mf11, mf12, mf13, mf14, mf15, mf16, mf17, mf18, mf19, mf20, mf21, mf22, mf23, mf24, mf25, mf26, mp4, mp7, mp22, mp25, mp26, mq_0, al_I, as_I, zl_Z, zs_0, zs_1, Nat.reduceAdd, Nat.reduceLeDiff, Nat.zero_le, cat_0, cat_i, cat_r, opt_n, opt_s, true_and, nI_add, pk_mul, ua_ua, ua_s, ua_n, not_false_eq_true, Nat.reduceEqDiff, xi_n (show tP v (tWv v k) (tHk v i) < 42 by omega) (show 42 < 2147483648 by decide), xi_n (show tLw v k i < 42 by omega) (show 42 < 2147483648 by decide), s121_143, s121_146]
      rw [← c2]
      have hkw3 : k < tLw v k (i + 1) := by omega
      refine ih (i + 1) _ _ (by omega) (by omega) hkw3 ((((hB.uk (by decide)).uk (by decide)).uk (by decide)).uk (by decide)) ⟨fun j hj => ?_, fun e he => ?_, fun e he he0 hew => ?_⟩
      · rw [ua_s]
        by_cases hj2 : j = tLw v k i
        · rw [hj2, pk_us, c4]
        · rw [pk_un hj2]
          exact hw.1 j (by omega)
      · rw [ua_n (by decide), ua_n (by decide), ua_n (by decide), ua_s]
        by_cases he2 : e = tP v (tWv v k) (tHk v i)
        · rw [he2, pk_us, c3, if_pos (by omega), c5]
        · rw [pk_un he2, hw.2.1 e he]
          have : ¬ tWp v e = tLw v k i := fun z => he2 (tWp_inj h1 h2 he hp (by rw [z, c3]))
          by_cases hc2 : tWp v e < tLw v k i
          · rw [if_pos hc2, if_pos (by omega)]
          · rw [if_neg hc2, if_neg (by omega)]
      · rw [ua_n (by decide), ua_n (by decide), ua_s, ua_n (by decide), ua_s]
        by_cases he2 : e = tP v (tWv v k) (tHk v i)
        · rw [he2, pk_us, pk_us, c6, c7]
          exact ⟨rfl, rfl⟩
        · have : ¬ tWp v e = tLw v k i := fun z => he2 (tWp_inj h1 h2 he hp (by rw [z, c3]))
          rw [pk_un he2, pk_un he2]
          exact hw.2.2 e he he0 (by omega)
theorem l_lw42 {A0 : Nat → Nat → Int32} (h1 : 1 ≤ v) (h2 : v ≤ 5) (hv : A0 1 0 = nI v) (hT : mTab v A0) (hX : ∀ B, mKeep A0 B → wInv v (tC v) B → X none (mdl M B g)) : ∀ (n k : Nat) (l3 l4 : Value) (A : Nat → Nat → Int32), n + k = tC v → mKeep A0 A → wInv v (tLw v k 1) A → ex_W 121 42 [.ref M, .int (nI (tLw v k 1)), .int (nI k), l3, l4] [] (mdl M A g) X := by
  have hC := tC_le h1 h2
  intro n
  induction n with
  | zero =>
    intro k l3 l4 A hn hA hw
    obtain rfl : k = tC v := by omega
    rw [(tLw0 h1 h2).2.1] at hw ⊢
    rw [s121_42]
    simp only [s121_0, s121_1, s121_2, s121_3, s121_4, s121_7, s121_10, s121_11, s121_14, s121_15, s121_17, s121_18, s121_21, s121_24, s121_25, s121_28, s121_29, s121_30, s121_31, s121_32, s121_35, s121_36, s121_37, s121_38, s121_39, s121_40, s121_41, s121_43, s121_44, s121_47, s121_48, s121_49, s121_50, s121_51, s121_54, s121_55, s121_56, s121_59, s121_60, s121_63, s121_65, s121_66, s121_69, s121_70, s121_71, s121_72, s121_73, s121_74, s121_77, s121_78, s121_79, s121_81, s121_82, s121_85, s121_87, s121_88, s121_91, s121_92, s121_95, s121_97, s121_98, s121_101, s121_102, s121_105, s121_106, s121_107, s121_108, s121_109, s121_110, s121_111, s121_112, s121_115, s121_117, s121_118, s121_121, s121_122, s121_123, s121_124, s121_125, s121_128, s121_130, s121_131, s121_132, s121_133, s121_136, s121_137, s121_139, s121_140, s121_143, s121_146, s121_149, s121_152, s121_155, mis, mg1, mg2, mg3, mg4, mg5, mg6, mg7, mg8, mg9, mg10, mg11, mg12, mg13, mg14, mg15, mg16, mg17, mg18, mg19, mg20, mg21, mg22, ms1, ms2, ms3, ms4, ms5, ms6, ms7, ms8, ms9, ms10, ms11, ms12, ms13, ms14, ms15, ms16, ms17, ms18, ms19, ms20, ms21, ms22, mf0, mf1, mf2, mf3, mf4, mf5, mf6, mf7, mf8, mf9, mf10, mf11, mf12, mf13, mf14, mf15, mf16, mf17, mf18, mf19, mf20, mf21, mf22, mf23, mf24, mf25, mf26, mp4, mp7, mp22, mp25, mp26, mq_0, al_I, as_I, zl_Z, zs_0, zs_1, Nat.reduceAdd, Nat.reduceLeDiff, Nat.zero_le, cat_0, cat_i, cat_r, opt_n, opt_s, true_and, nI_add, pk_mul, ua_ua, ua_s, ua_n, not_false_eq_true, Nat.reduceEqDiff]
    rw [if_pos ((nI_l1 (by omega) (by omega)).mpr (by omega))]
    exact hX A hA hw
  | succ n ih =>
    intro k l3 l4 A hn hA hw
    have hl := tLw1 h1 h2 (show k < tC v by omega)
    rw [s121_42]
    simp only [s121_0, s121_1, s121_2, s121_3, s121_4, s121_7, s121_10, s121_11, s121_14, s121_15, s121_17, s121_18, s121_21, s121_24, s121_25, s121_28, s121_29, s121_30, s121_31, s121_32, s121_35, s121_36, s121_37, s121_38, s121_39, s121_40, s121_41, s121_43, s121_44, s121_47, s121_48, s121_50, s121_51, s121_54, s121_55, s121_56, s121_59, s121_60, s121_63, s121_65, s121_66, s121_69, s121_70, s121_71, s121_72, s121_73, s121_74, s121_77, s121_78, s121_79, s121_81, s121_82, s121_85, s121_87, s121_88, s121_91, s121_92, s121_95, s121_97, s121_98, s121_101, s121_102, s121_105, s121_106, s121_107, s121_108, s121_109, s121_110, s121_111, s121_112, s121_115, s121_117, s121_118, s121_121, s121_122, s121_123, s121_124, s121_125, s121_128, s121_130, s121_131, s121_132, s121_133, s121_136, s121_137, s121_139, s121_140, s121_143, s121_146, s121_149, s121_152, s121_155, mis, mg1, mg2, mg3, mg4, mg5, mg6, mg7, mg8, mg9, mg10, mg11, mg12, mg13, mg14, mg15, mg16, mg17, mg18, mg19, mg20, mg21, mg22, ms1, ms2, ms3, ms4, ms5, ms6, ms7, ms8, ms9, ms10, ms11, ms12, ms13, ms14, ms15, ms16, ms17, ms18, ms19, ms20, ms21, ms22, mf0, mf1, mf2, mf3, mf4, mf5, mf6, mf7, mf8, mf9, mf10, mf11, mf12, mf13, mf14, mf15, mf16, mf17, mf18, mf19, mf20, mf21, mf22, mf23, mf24, mf25, mf26, mp4, mp7, mp22, mp25, mp26, mq_0, al_I, as_I, zl_Z, zs_0, zs_1, Nat.reduceAdd, Nat.reduceLeDiff, Nat.zero_le, cat_0, cat_i, cat_r, opt_n, opt_s, true_and, nI_add, pk_mul, ua_ua, ua_s, ua_n, not_false_eq_true, Nat.reduceEqDiff]
    rw [if_neg (fun z => absurd ((nI_l1 (by omega) (by omega)).mp z) (by omega))]
    refine l_lw49 h1 h2 (show k < tC v by omega) hv hT (fun B l3 l4 hB hw2 => ?_) (v - 1) 1 _ A (by omega) (by decide) hl.1 hA hw
    rw [hl.2.1] at hw2 ⊢
    simp only [s121_149, s121_152, nI_add]
    exact ih (k + 1) _ _ B (by omega) hB hw2
theorem l_lw2 {l2 l3 l4 : Value} (h1 : 1 ≤ v) (h2 : v ≤ 5) (hT : mTab v A) (hX : ∀ f : Nat → Int32, (∀ d, d < tC v → f d = -6) → ex_W 121 24 [.ref M, .int (nI (tC v)), l2, l3, l4] [] (mdl M (ua A 15 f) g) X) : ∀ (n p : Nat) (f : Nat → Int32), n + p = tC v → (∀ d, d < p → f d = -6) → ex_W 121 2 [.ref M, .int (nI p), l2, l3, l4] [] (mdl M (ua A 15 f) g) X := by
  have hC := tC_le h1 h2
  intro n
  induction n with
  | zero =>
    intro p f hn hf
    obtain rfl : p = tC v := by omega
    rw [s121_2]
    simp only [s121_0, s121_1, s121_3, s121_4, s121_7, s121_10, s121_11, s121_14, s121_15, s121_17, s121_18, s121_21, s121_25, s121_28, s121_29, s121_30, s121_31, s121_32, s121_35, s121_36, s121_37, s121_38, s121_39, s121_40, s121_41, s121_42, s121_43, s121_44, s121_47, s121_48, s121_49, s121_50, s121_51, s121_54, s121_55, s121_56, s121_59, s121_60, s121_63, s121_65, s121_66, s121_69, s121_70, s121_71, s121_72, s121_73, s121_74, s121_77, s121_78, s121_79, s121_81, s121_82, s121_85, s121_87, s121_88, s121_91, s121_92, s121_95, s121_97, s121_98, s121_101, s121_102, s121_105, s121_106, s121_107, s121_108, s121_109, s121_110, s121_111, s121_112, s121_115, s121_117, s121_118, s121_121, s121_122, s121_123, s121_124, s121_125, s121_128, s121_130, s121_131, s121_132, s121_133, s121_136, s121_137, s121_139, s121_140, s121_143, s121_146, s121_149, s121_152, s121_155, mis, mg1, mg2, mg3, mg4, mg5, mg6, mg7, mg8, mg9, mg10, mg11, mg12, mg13, mg14, mg15, mg16, mg17, mg18, mg19, mg20, mg21, mg22, ms1, ms2, ms3, ms4, ms5, ms6, ms7, ms8, ms9, ms10, ms11, ms12, ms13, ms14, ms15, ms16, ms17, ms18, ms19, ms20, ms21, ms22, mf0, mf1, mf2, mf3, mf4, mf5, mf6, mf7, mf8, mf9, mf10, mf11, mf12, mf13, mf14, mf15, mf16, mf17, mf18, mf19, mf20, mf21, mf22, mf23, mf24, mf25, mf26, mp4, mp7, mp22, mp25, mp26, mq_0, al_I, as_I, zl_Z, zs_0, zs_1, Nat.reduceAdd, Nat.reduceLeDiff, Nat.zero_le, cat_0, cat_i, cat_r, opt_n, opt_s, true_and, nI_add, pk_mul, ua_ua, ua_s, ua_n, not_false_eq_true, Nat.reduceEqDiff, hT.1]
    rw [if_pos ((nI_l1 (by omega) (by omega)).mpr (by omega))]
    exact hX f hf
  | succ n ih =>
    intro p f hn hf
    rw [s121_2]
    simp only [s121_0, s121_1, s121_3, s121_4, s121_7, s121_10, s121_11, s121_14, s121_15, s121_17, s121_18, s121_21, s121_25, s121_28, s121_29, s121_30, s121_31, s121_32, s121_35, s121_36, s121_37, s121_38, s121_39, s121_40, s121_41, s121_42, s121_43, s121_44, s121_47, s121_48, s121_49, s121_50, s121_51, s121_54, s121_55, s121_56, s121_59, s121_60, s121_63, s121_65, s121_66, s121_69, s121_70, s121_71, s121_72, s121_73, s121_74, s121_77, s121_78, s121_79, s121_81, s121_82, s121_85, s121_87, s121_88, s121_91, s121_92, s121_95, s121_97, s121_98, s121_101, s121_102, s121_105, s121_106, s121_107, s121_108, s121_109, s121_110, s121_111, s121_112, s121_115, s121_117, s121_118, s121_121, s121_122, s121_123, s121_124, s121_125, s121_128, s121_130, s121_131, s121_132, s121_133, s121_136, s121_137, s121_139, s121_140, s121_143, s121_146, s121_149, s121_152, s121_155, mis, mg1, mg2, mg3, mg4, mg5, mg6, mg7, mg8, mg9, mg10, mg11, mg12, mg13, mg14, mg15, mg16, mg17, mg18, mg19, mg20, mg21, mg22, ms1, ms2, ms3, ms4, ms5, ms6, ms7, ms8, ms9, ms10, ms11, ms12, ms13, ms14, ms15, ms16, ms17, ms18, ms19, ms20, ms21, ms22, mf0, mf1, mf2, mf3, mf4, mf5, mf6, mf7, mf8, mf9, mf10, mf11, mf12, mf13, mf14, mf15, mf16, mf17, mf18, mf19, mf20, mf21, mf22, mf23, mf24, mf25, mf26, mp4, mp7, mp22, mp25, mp26, mq_0, al_I, as_I, zl_Z, zs_0, zs_1, Nat.reduceAdd, Nat.reduceLeDiff, Nat.zero_le, cat_0, cat_i, cat_r, opt_n, opt_s, true_and, nI_add, pk_mul, ua_ua, ua_s, ua_n, not_false_eq_true, Nat.reduceEqDiff, hT.1, xi_n (show p < 42 by omega) (show 42 < 2147483648 by decide)]
    rw [if_neg (fun z => absurd ((nI_l1 (by omega) (by omega)).mp z) (by omega))]
    refine ih (p + 1) _ (by omega) (fun d hd => ?_)
    by_cases hd2 : d = p
    · rw [hd2, pk_us]
    · rw [pk_un hd2]
      exact hf d (by omega)
theorem r_layWays (h1 : 1 ≤ v) (h2 : v ≤ 5) (hv : A 1 0 = nI v) (hT : mTab v A) (hX : ∀ B, mKeep A B → wInv v (tC v) B → X none (mdl M B g)) : ex_W 121 0 [.ref M, oU, oU, oU, oU] [] (mdl M A g) X := by
  have hC := tC_le h1 h2
  obtain ⟨w0, w1, w2, w3, w4⟩ := tLw0 h1 h2
  rw [s121_0, s121_1]
  have := l_lw2 (M := M) (A := A) (g := g) (X := X) (l2 := oU) (l3 := oU) (l4 := oU) h1 h2 hT (fun f hf => ?_) (tC v) 0 (A 15) (by omega) (fun j hj => by omega)
  · rw [ua_id] at this
    exact this
  simp only [s121_0, s121_1, s121_3, s121_4, s121_7, s121_10, s121_11, s121_14, s121_15, s121_17, s121_18, s121_21, s121_24, s121_25, s121_28, s121_29, s121_30, s121_31, s121_32, s121_35, s121_36, s121_37, s121_38, s121_39, s121_40, s121_41, s121_43, s121_44, s121_47, s121_48, s121_49, s121_50, s121_51, s121_54, s121_55, s121_56, s121_59, s121_60, s121_63, s121_65, s121_66, s121_69, s121_70, s121_71, s121_72, s121_73, s121_74, s121_77, s121_78, s121_79, s121_81, s121_82, s121_85, s121_87, s121_88, s121_91, s121_92, s121_95, s121_97, s121_98, s121_101, s121_102, s121_105, s121_106, s121_107, s121_108, s121_109, s121_110, s121_111, s121_112, s121_115, s121_117, s121_118, s121_121, s121_122, s121_123, s121_124, s121_125, s121_128, s121_130, s121_131, s121_132, s121_133, s121_136, s121_137, s121_139, s121_140, s121_143, s121_146, s121_149, s121_152, s121_155, mis, mg1, mg2, mg3, mg4, mg5, mg6, mg7, mg8, mg9, mg10, mg11, mg12, mg13, mg14, mg15, mg16, mg17, mg18, mg19, mg20, mg21, mg22, ms1, ms2, ms3, ms4, ms5, ms6, ms7, ms8, ms9, ms10, ms11, ms12, ms13, ms14, ms15, ms16, ms17, ms18, ms19, ms20, ms21, ms22, mf0, mf1, mf2, mf3, mf4, mf5, mf6, mf7, mf8, mf9, mf10, mf11, mf12, mf13, mf14, mf15, mf16, mf17, mf18, mf19, mf20, mf21, mf22, mf23, mf24, mf25, mf26, mp4, mp7, mp22, mp25, mp26, mq_0, al_I, as_I, zl_Z, zs_0, zs_1, Nat.reduceAdd, Nat.reduceLeDiff, Nat.zero_le, cat_0, cat_i, cat_r, opt_n, opt_s, true_and, nI_add, pk_mul, ua_ua, ua_s, ua_n, not_false_eq_true, Nat.reduceEqDiff, xi_n (show 0 < 42 by omega) (show 42 < 2147483648 by decide)]
  have := l_lw42 (M := M) (g := g) (X := X) h1 h2 hv hT hX (tC v) 0 oU oU _ (by omega) ((mKeep.rfl'.uk (show 9 ≤ 15 by decide) (f := upd f 0 (nI 0))).uk (show 9 ≤ 12 by decide) (f := upd (A 12) 0 (nI 0))) ⟨fun j hj => ?_, fun e he => ?_, fun e he he0 hew => ?_⟩
  · rw [w0] at this
    exact this
  · rw [w0] at hj
    obtain rfl : j = 0 := by omega
    rw [ua_s, pk_us, w2]
  · rw [ua_n (by decide), ua_s, w0]
    by_cases he0 : e = 0
    · rw [he0, pk_us, w3, if_pos (by decide), w4]
    · rw [pk_un he0, hf e he, if_neg (fun z => he0 (tWp_inj h1 h2 he (show 0 < tC v by omega) (by omega)))]
  · rw [w0] at hew
    exact absurd (tWp_inj h1 h2 he (show 0 < tC v by omega) (by omega)) he0
end M6
