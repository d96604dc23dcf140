/-! THE REFERENCE: halves and their forms -/
def hV (q : Nat) : Int32 := if q = 5 then -6 else nI q
def wrH (ws : List (Nat × Nat)) (f : Nat → Int32) : Nat → Int32 := fun j => match ws.lookup j with
  | some q => hV q
  | none => f j
theorem wrH_cons {k q : Nat} {ws : List (Nat × Nat)} {f : Nat → Int32} : wrH ((k, q) :: ws) f = upd (wrH ws f) k (hV q) := by
  funext j
  by_cases h : j = k
  · subst h
    simp [wrH, upd]
  · have hb : (j == k) = false := by simp [h]
    simp [wrH, upd, h, List.lookup, hb]
theorem hV_n {q : Nat} (h : ¬ q = 5) : hV q = nI q := if_neg h
theorem hV_5 : hV 5 = -6 := rfl
theorem z3 : (nI 3 = 0) = False := eq_false (by decide)
theorem z2 : (nI 2 = 0) = False := eq_false (by decide)
def lhf : Nat → Nat → List Nat → List (Nat × Nat) → Nat → Bool → List Nat × List (Nat × Nat) × Nat × Bool
  | 0, _, stk, ws, o, is => (stk, ws, o, is)
  | n + 1, rest, stk, ws, o, is => if rest % 3 = 1 then lhf n (rest / 3) (n :: stk) ws o is else if rest % 3 = 0 then (match stk with
    | [] => lhf n (rest / 3) [] ws o false
    | q :: s => lhf n (rest / 3) s ((q, n) :: (n, q) :: ws) o is) else (match stk with
    | [] => lhf n (rest / 3) [] ((n, 5) :: ws) (o + 1) is
    | q :: s => lhf n (rest / 3) (q :: s) ws o false)
theorem lhf_s {n rest o : Nat} {stk : List Nat} {ws : List (Nat × Nat)} {is : Bool} : lhf (n + 1) rest stk ws o is = if rest % 3 = 1 then lhf n (rest / 3) (n :: stk) ws o is else if rest % 3 = 0 then (match stk with
    | [] => lhf n (rest / 3) [] ws o false
    | q :: s => lhf n (rest / 3) s ((q, n) :: (n, q) :: ws) o is) else (match stk with
    | [] => lhf n (rest / 3) [] ((n, 5) :: ws) (o + 1) is
    | q :: s => lhf n (rest / 3) (q :: s) ws o false) := by
  cases stk <;> rfl
def isLh (r : Nat) (x : List Nat × List (Nat × Nat) × Nat × Bool) : Bool := x.2.2.2 && x.1.isEmpty && decide (x.2.2.1 = r)
def ctr (v r x y : Nat) : Nat → Bool → Nat → List Nat → Option (Bool × List Nat)
  | 0, _, _, _ => none
  | n + 1, oth, nx, ms => if nx = 5 then some (oth, ms) else if nx < v then ctr v r x y n (!oth) (tH v r (if (!oth) = true then y else x) nx) (nx :: ms) else none
def fo1 (v r x y : Nat) : Nat → Nat → Bool → List Nat → Option (Bool × List Nat)
  | 0, _, is, ms => some (is, ms)
  | n + 1, p, is, ms => if tH v r x p = 5 then (match ctr v r x y 12 true (tH v r y p) (p :: ms) with
    | some (b, ms') => fo1 v r x y n (p + 1) (b && is) ms'
    | none => none) else fo1 v r x y n (p + 1) is ms
def fmr (v r x y : Nat) : Nat → Nat → List Nat → Option (List Nat)
  | 0, _, _ => none
  | n + 1, t, ms => if t ∈ ms then some ms else if tH v r x t < v ∧ tH v r y (tH v r x t) < v then fmr v r x y n (tH v r y (tH v r x t)) (tH v r x t :: t :: ms) else none
def fo2 (v r x y : Nat) : Nat → Nat → List Nat → Nat → Option Nat
  | 0, _, _, c => some c
  | n + 1, p, ms, c => if p ∈ ms then fo2 v r x y n (p + 1) ms c else match fmr v r x y 12 p ms with
    | some ms' => fo2 v r x y n (p + 1) ms' (c + 1)
    | none => none
abbrev okR (v r : Nat) : Prop := r ≤ v ∧ (v - r) % 2 = 0
theorem tHf_k : all5 (fun v => allN 6 (fun r => !(decide (okR v r)) || (decide (tHix v r 0 = 0 ∧ tHix v r (3 ^ v) = tHn v r ∧ 1 ≤ tHn v r ∧ tHn v r ≤ 5) && allN (3 ^ v) (fun t => if isLh r (lhf v t [] [] 0 true) = true then decide (tHix v r (t + 1) = tHix v r t + 1 ∧ tHc v r (tHix v r t) = t ∧ tHix v r t < tHn v r) && allN v (fun j => decide ((lhf v t [] [] 0 true).2.1.lookup j = some (tH v r (tHix v r t) j))) else decide (tHix v r (t + 1) = tHix v r t))))) = true := by decide +kernel
theorem tFo_k : all5 (fun v => allN 6 (fun r => !(decide (okR v r)) || allN (tHn v r) (fun i => allN v (fun q => decide (tH v r i q ≤ 5 ∧ (tH v r i q < 5 → tH v r i q < v))) && allN (tHn v r) (fun j => match fo1 v r i j v 0 true [] with
  | some (true, ms) => decide (fo2 v r i j v 0 ms 0 = some (tF v r i j) ∧ tF v r i j ≤ 5)
  | some (false, _) => decide (tF v r i j = 9)
  | none => false)))) = true := by decide +kernel
theorem tHf0 {v r : Nat} (h1 : 1 ≤ v) (h2 : v ≤ 5) (hr : okR v r) : tHix v r 0 = 0 ∧ tHix v r (3 ^ v) = tHn v r ∧ 1 ≤ tHn v r ∧ tHn v r ≤ 5 := by
  have q := allN_of (all5_of tHf_k h1 h2) (show r < 6 by have := hr.1; omega)
  rw [Bool.or_eq_true, Bool.and_eq_true] at q
  rcases q with q | q
  · simp [hr] at q
  · exact of_decide_eq_true q.1
theorem tHfS {v r t : Nat} (h1 : 1 ≤ v) (h2 : v ≤ 5) (hr : okR v r) (ht : t < 3 ^ v) (hi : isLh r (lhf v t [] [] 0 true) = true) : (tHix v r (t + 1) = tHix v r t + 1 ∧ tHc v r (tHix v r t) = t ∧ tHix v r t < tHn v r) ∧ ∀ j, j < v → (lhf v t [] [] 0 true).2.1.lookup j = some (tH v r (tHix v r t) j) := by
  have q := allN_of (all5_of tHf_k h1 h2) (show r < 6 by have := hr.1; omega)
  rw [Bool.or_eq_true, Bool.and_eq_true] at q
  rcases q with q | q
  · simp [hr] at q
  · have q := allN_of q.2 ht
    rw [if_pos hi, Bool.and_eq_true] at q
    exact ⟨of_decide_eq_true q.1, fun j hj => of_decide_eq_true (allN_of q.2 hj)⟩
theorem tHfN {v r t : Nat} (h1 : 1 ≤ v) (h2 : v ≤ 5) (hr : okR v r) (ht : t < 3 ^ v) (hi : ¬ isLh r (lhf v t [] [] 0 true) = true) : tHix v r (t + 1) = tHix v r t := by
  have q := allN_of (all5_of tHf_k h1 h2) (show r < 6 by have := hr.1; omega)
  rw [Bool.or_eq_true, Bool.and_eq_true] at q
  rcases q with q | q
  · simp [hr] at q
  · have q := allN_of q.2 ht
    rw [if_neg hi] at q
    exact of_decide_eq_true q
theorem tH_lt {v r i q : Nat} (h1 : 1 ≤ v) (h2 : v ≤ 5) (hr : okR v r) (hi : i < tHn v r) (hq : q < v) : tH v r i q ≤ 5 ∧ (tH v r i q < 5 → tH v r i q < v) := by
  have k := allN_of (all5_of tFo_k h1 h2) (show r < 6 by have := hr.1; omega)
  rw [Bool.or_eq_true] at k
  rcases k with k | k
  · simp [hr] at k
  · have k := allN_of k hi
    rw [Bool.and_eq_true] at k
    exact of_decide_eq_true (allN_of k.1 hq)
theorem tFo {v r i j : Nat} (h1 : 1 ≤ v) (h2 : v ≤ 5) (hr : okR v r) (hi : i < tHn v r) (hj : j < tHn v r) : ∃ is ms, fo1 v r i j v 0 true [] = some (is, ms) ∧ (is = true → fo2 v r i j v 0 ms 0 = some (tF v r i j) ∧ tF v r i j ≤ 5) ∧ (is = false → tF v r i j = 9) := by
  have k := allN_of (all5_of tFo_k h1 h2) (show r < 6 by have := hr.1; omega)
  rw [Bool.or_eq_true] at k
  rcases k with k | k
  · simp [hr] at k
  · have k := allN_of k hi
    rw [Bool.and_eq_true] at k
    have k := allN_of k.2 hj
    cases hf : fo1 v r i j v 0 true [] with
    | none => rw [hf] at k; cases k
    | some x =>
      obtain ⟨is, ms⟩ := x
      rw [hf] at k
      cases is with
      | true => exact ⟨true, ms, rfl, fun _ => of_decide_eq_true k, fun z => by cases z⟩
      | false => exact ⟨false, ms, rfl, fun z => by (cases z), fun _ => of_decide_eq_true k⟩
def fN (v p lo r i j : Nat) : Nat := if tF v r i j = 9 then 0 else lo ^ tF v r i j % p
section M12
variable {M : Nat} {A : Nat → Nat → Int32} {g h : ex_Hp} {X : Option Value → ex_Hp → Prop} {v a b d p lo s r : Nat} {f0 : Nat → Int32} {S : Nat → Nat → Nat} {A0 : Nat → Nat → Int32}
theorem l_lh {l1 : Value} (h2 : v ≤ 5) : ∀ (n rest : Nat) (stk : List Nat) (ws : List (Nat × Nat)) (o : Nat) (is : Bool) (l8 : Value) (A : Nat → Nat → Int32), n ≤ v → rest < 243 → stk.length + n ≤ v → (∀ q ∈ stk, q < v) → (∀ j, j < stk.length → A 10 j = nI (stk.reverse.getD j 0)) → A 21 = wrH ws f0 → (∀ k, ¬ k = 10 → ¬ k = 21 → A k = A0 k) → o + n ≤ v →
    (∀ B : Nat → Nat → Int32, (∀ k, ¬ k = 10 → ¬ k = 21 → B k = A0 k) → B 21 = wrH (lhf n rest stk ws o is).2.1 f0 → X (some (.int (bI (isLh r (lhf n rest stk ws o is))))) (mdl M B g)) → r < 100 →
    ex_W 145 21 [.ref M, l1, .int (nI r), .int (nI stk.length), .int (nI o), .int (nI rest), .int (bI is), .int (nI n - nI 1), l8] [] (mdl M A g) X := by
  intro n
  induction n with
  | zero =>
    intro rest stk ws o is l8 A hn hrest hlen hlt hs h9 hA ho hX hr
    rw [lhf] at hX
    have hX := hX A hA h9
    rw [s145_21]
    simp only [s145_0, s145_1, s145_2, s145_3, s145_5, s145_6, s145_8, s145_9, s145_11, s145_12, s145_15, s145_16, s145_17, s145_18, s145_19, s145_23, s145_26, s145_28, s145_29, s145_30, s145_32, s145_34, s145_35, s145_36, s145_38, s145_40, s145_41, s145_44, s145_45, s145_48, s145_49, s145_51, s145_52, s145_55, s145_58, s145_60, s145_63, s145_64, s145_67, s145_70, s145_71, s145_74, s145_76, s145_77, s145_80, s145_81, s145_82, s145_83, s145_84, s145_87, s145_88, s145_91, s145_92, s145_93, s145_95, s145_96, s145_99, s145_101, s145_102, s145_105, s145_106, s145_109, s145_112, s145_113, s145_116, s145_118, s145_120, s145_121, s145_124, s145_125, s145_127, s145_130, s145_133, s145_135, s145_138, s145_139, s145_142, s145_144, s145_145, s145_148, s145_149, s145_152, s145_153, mis, mg1, mg2, mg3, mg4, mg5, mg6, mg7, mg8, mg9, mg10, mg11, mg12, mg13, mg14, mg15, mg16, mg17, mg18, mg19, mg20, mg21, mg22, ms1, ms2, ms3, ms4, ms5, ms6, ms7, ms8, ms9, ms10, ms11, ms12, ms13, ms14, ms15, ms16, ms17, ms18, ms19, ms20, ms21, ms22, mf0, mf1, mf2, mf3, mf4, mf5, mf6, mf7, mf8, mf9, mf10, mf11, mf12, mf13, mf14, mf15, mf16, mf17, mf18, mf19, mf20, mf21, mf22, mf23, mf24, mf25, mf26, mp4, mp7, mp22, mp25, mp26, mq_0, al_I, as_I, zl_Z, zs_0, zs_1, Nat.reduceAdd, Nat.reduceLeDiff, Nat.zero_le, cat_0, cat_i, cat_r, opt_n, opt_s, true_and, nI_add, pk_mul, ua_ua, ua_s, ua_n, not_false_eq_true, Nat.reduceEqDiff]
    rw [if_pos (by decide)]
    cases is with
    | false =>
      rw [if_pos (show bI false = nI 0 by decide)]
      exact ⟨Or.inl trivial, hX⟩
    | true =>
      rw [if_neg (show ¬ bI true = nI 0 by decide)]
      cases stk with
      | nil =>
        rw [if_neg (fun z => z rfl)]
        by_cases hc : o = r
        · rw [if_neg (fun z => z (by rw [hc]))]
          have e : isLh r (([] : List Nat), ws, o, true) = true := by simp [isLh, hc]
          rw [e] at hX
          exact ⟨Or.inr trivial, hX⟩
        · rw [if_pos (fun z => hc ((nI_e (by omega) (by omega)).mp z))]
          have e : isLh r (([] : List Nat), ws, o, true) = false := by simp [isLh, hc]
          rw [e] at hX
          exact ⟨Or.inl trivial, hX⟩
      | cons q s =>
        rw [if_pos (fun z => absurd ((nI_e (by simp only [List.length_cons] at hlen ⊢; omega) (by omega)).mp z) (by simp))]
        have e : isLh r (q :: s, ws, o, true) = false := by simp [isLh]
        rw [e] at hX
        exact ⟨Or.inl trivial, hX⟩
  | succ n ih =>
    intro rest stk ws o is l8 A hn hrest hlen hlt hs h9 hA ho hX hr
    have e1 : nI (n + 1) - nI 1 = nI n := pk_sub (by omega)
    have e2 : nI rest - nI (rest / 3 * 3) = nI (rest % 3) := by rw [pk_sub (by omega), show rest - rest / 3 * 3 = rest % 3 by omega]
    have e3 : nI rest / nI 3 = nI (rest / 3) := pk_div (by have e : (2:Nat)^31 = 2147483648 := rfl; omega) (by decide) (by decide)
    have hrd : rest / 3 < 243 := by omega
    rw [lhf_s] at hX
    rw [s145_21]
    simp only [s145_0, s145_1, s145_2, s145_3, s145_5, s145_6, s145_8, s145_9, s145_11, s145_12, s145_15, s145_16, s145_17, s145_18, s145_19, s145_23, s145_26, s145_28, s145_29, s145_30, s145_32, s145_34, s145_35, s145_36, s145_38, s145_40, s145_41, s145_44, s145_45, s145_48, s145_49, s145_51, s145_52, s145_55, s145_58, s145_60, s145_63, s145_64, s145_67, s145_70, s145_71, s145_74, s145_76, s145_77, s145_80, s145_81, s145_82, s145_83, s145_84, s145_87, s145_88, s145_91, s145_92, s145_93, s145_95, s145_96, s145_99, s145_101, s145_102, s145_105, s145_106, s145_109, s145_112, s145_113, s145_116, s145_118, s145_120, s145_121, s145_124, s145_125, s145_127, s145_130, s145_133, s145_135, s145_138, s145_139, s145_142, s145_144, s145_145, s145_148, s145_149, s145_152, s145_153, mis, mg1, mg2, mg3, mg4, mg5, mg6, mg7, mg8, mg9, mg10, mg11, mg12, mg13, mg14, mg15, mg16, mg17, mg18, mg19, mg20, mg21, mg22, ms1, ms2, ms3, ms4, ms5, ms6, ms7, ms8, ms9, ms10, ms11, ms12, ms13, ms14, ms15, ms16, ms17, ms18, ms19, ms20, ms21, ms22, mf0, mf1, mf2, mf3, mf4, mf5, mf6, mf7, mf8, mf9, mf10, mf11, mf12, mf13, mf14, mf15, mf16, mf17, mf18, mf19, mf20, mf21, mf22, mf23, mf24, mf25, mf26, mp4, mp7, mp22, mp25, mp26, mq_0, al_I, as_I, zl_Z, zs_0, zs_1, Nat.reduceAdd, Nat.reduceLeDiff, Nat.zero_le, cat_0, cat_i, cat_r, opt_n, opt_s, true_and, nI_add, pk_mul, ua_ua, ua_s, ua_n, not_false_eq_true, Nat.reduceEqDiff, e1, e2, e3, z3, xi_n (show stk.length < 10 by omega) (show 10 < 2147483648 by decide), xi_n (show n < 5 by omega) (show 5 < 2147483648 by decide)]
    rw [if_neg (fun z => absurd ((nI_l2 (by omega) (by omega)).mp z) (by omega))]
    by_cases c1 : rest % 3 = 1
    · rw [if_pos c1] at hX
      rw [if_neg (fun z => z (by rw [c1]))]
      refine ih (rest / 3) (n :: stk) ws o is _ _ (by omega) hrd (by simp only [List.length_cons]; omega) (fun q hq => ?_) (fun j hj => ?_) ?_ (fun k k10 k21 => ?_) (by omega) hX hr
      · rcases List.mem_cons.mp hq with rfl | hq
        · omega
        · exact hlt q hq
      · rw [ua_s, List.reverse_cons]
        by_cases hj2 : j = stk.length
        · subst hj2
          rw [pk_us, List.getD_eq_getElem?_getD, List.getElem?_append_right (by simp)]
          simp
        · simp only [List.length_cons] at hj
          rw [pk_un hj2, hs j (by omega), List.getD_eq_getElem?_getD, List.getD_eq_getElem?_getD, List.getElem?_append_left (by simp; omega)]
      · rw [ua_n (by decide)]; exact h9
      · rw [ua_n k10]; exact hA k k10 k21
    · rw [if_neg c1] at hX
      rw [if_pos (fun z => absurd ((nI_e (by omega) (by omega)).mp z) (by omega))]
      by_cases c0 : rest % 3 = 0
      · rw [if_pos c0] at hX
        rw [if_neg (fun z => z (by rw [c0]))]
        cases stk with
        | nil =>
          rw [if_pos (show nI ([] : List Nat).length ≤ nI 0 by decide), if_pos (fun z => absurd ((nI_e (by omega) (by omega)).mp z) (by omega))]
          exact ih (rest / 3) [] ws o false _ A (by omega) hrd (by simp; omega) (fun q hq => by cases hq) (fun j hj => by cases hj) h9 hA (by omega) hX hr
        | cons q s =>
          simp only [List.length_cons] at hlen hs ⊢
          have hq : A 10 s.length = nI q := by
            rw [hs s.length (by omega), List.reverse_cons, List.getD_eq_getElem?_getD, List.getElem?_append_right (by simp)]
            simp
          have hqv := hlt q List.mem_cons_self
          rw [if_neg (fun z => absurd ((nI_l1 (by omega) (by omega)).mp z) (by omega))]
          simp only [pk_sub (show 1 ≤ s.length + 1 by omega), Nat.add_sub_cancel, mis, mg1, mg2, mg3, mg4, mg5, mg6, mg7, mg8, mg9, mg10, mg11, mg12, mg13, mg14, mg15, mg16, mg17, mg18, mg19, mg20, mg21, mg22, ms1, ms2, ms3, ms4, ms5, ms6, ms7, ms8, ms9, ms10, ms11, ms12, ms13, ms14, ms15, ms16, ms17, ms18, ms19, ms20, ms21, ms22, mf0, mf1, mf2, mf3, mf4, mf5, mf6, mf7, mf8, mf9, mf10, mf11, mf12, mf13, mf14, mf15, mf16, mf17, mf18, mf19, mf20, mf21, mf22, mf23, mf24, mf25, mf26, mp4, mp7, mp22, mp25, mp26, mq_0, al_I, as_I, zl_Z, zs_0, zs_1, Nat.reduceAdd, Nat.reduceLeDiff, Nat.zero_le, cat_0, cat_i, cat_r, opt_n, opt_s, true_and, nI_add, pk_mul, ua_ua, ua_s, ua_n, not_false_eq_true, Nat.reduceEqDiff, xi_n (show s.length < 10 by omega) (show 10 < 2147483648 by decide), xi_n (show n < 5 by omega) (show 5 < 2147483648 by decide), hq, xi_n (show q < 5 by omega) (show 5 < 2147483648 by decide)]
          refine ih (rest / 3) s ((q, n) :: (n, q) :: ws) o is _ _ (by omega) hrd (by omega) (fun k hk => hlt k (List.mem_cons_of_mem _ hk)) (fun j hj => ?_) ?_ (fun k k10 k21 => ?_) (by omega) hX hr
          · rw [ua_n (by decide), hs j (by omega), List.reverse_cons, List.getD_eq_getElem?_getD, List.getD_eq_getElem?_getD, List.getElem?_append_left (by simp; omega)]
          · rw [ua_s, wrH_cons, wrH_cons, h9, hV_n (by omega), hV_n (by omega)]
          · rw [ua_n k21]; exact hA k k10 k21
      · rw [if_neg c0] at hX
        have c2 : rest % 3 = 2 := by omega
        rw [if_pos (fun z => absurd ((nI_e (by omega) (by omega)).mp z) (by omega)), if_neg (fun z => z (by rw [c2]))]
        cases stk with
        | nil =>
          rw [if_neg (fun z => z rfl)]
          refine ih (rest / 3) [] ((n, 5) :: ws) (o + 1) is _ _ (by omega) hrd (by simp; omega) (fun q hq => by cases hq) (fun j hj => by cases hj) ?_ (fun k k10 k21 => ?_) (by omega) hX hr
          · rw [ua_s, wrH_cons, h9, hV_5]
          · rw [ua_n k21]; exact hA k k10 k21
        | cons q s =>
          rw [if_pos (fun z => absurd ((nI_e (by simp only [List.length_cons] at hlen ⊢; omega) (by omega)).mp z) (by simp))]
          exact ih (rest / 3) (q :: s) ws o false _ A (by omega) hrd (by omega) hlt hs h9 hA (by omega) hX hr
theorem r_layHalf {t : Nat} (h1 : 1 ≤ v) (h2 : v ≤ 5) (hv : A 1 0 = nI v) (ht : t < 243) (hr : r < 100) (hX : ∀ B : Nat → Nat → Int32, (∀ k, ¬ k = 10 → ¬ k = 21 → B k = A k) → B 21 = wrH (lhf v t [] [] 0 true).2.1 (A 21) → X (some (.int (bI (isLh r (lhf v t [] [] 0 true))))) (mdl M B g)) : ex_W 145 0 [.ref M, .int (nI t), .int (nI r), oU, oU, oU, oU, oU, oU] [] (mdl M A g) X := by
  simp only [s145_0, s145_1, s145_2, s145_3, s145_5, s145_6, s145_8, s145_9, s145_11, s145_12, s145_15, s145_16, s145_17, s145_18, s145_19, s145_23, s145_26, s145_28, s145_29, s145_30, s145_32, s145_34, s145_35, s145_36, s145_38, s145_40, s145_41, s145_44, s145_45, s145_48, s145_49, s145_51, s145_52, s145_55, s145_58, s145_60, s145_63, s145_64, s145_67, s145_70, s145_71, s145_74, s145_76, s145_77, s145_80, s145_81, s145_82, s145_83, s145_84, s145_87, s145_88, s145_91, s145_92, s145_93, s145_95, s145_96, s145_99, s145_101, s145_102, s145_105, s145_106, s145_109, s145_112, s145_113, s145_116, s145_118, s145_120, s145_121, s145_124, s145_125, s145_127, s145_130, s145_133, s145_135, s145_138, s145_139, s145_142, s145_144, s145_145, s145_148, s145_149, s145_152, s145_153, mis, mg1, mg2, mg3, mg4, mg5, mg6, mg7, mg8, mg9, mg10, mg11, mg12, mg13, mg14, mg15, mg16, mg17, mg18, mg19, mg20, mg21, mg22, ms1, ms2, ms3, ms4, ms5, ms6, ms7, ms8, ms9, ms10, ms11, ms12, ms13, ms14, ms15, ms16, ms17, ms18, ms19, ms20, ms21, ms22, mf0, mf1, mf2, mf3, mf4, mf5, mf6, mf7, mf8, mf9, mf10, mf11, mf12, mf13, mf14, mf15, mf16, mf17, mf18, mf19, mf20, mf21, mf22, mf23, mf24, mf25, mf26, mp4, mp7, mp22, mp25, mp26, mq_0, al_I, as_I, zl_Z, zs_0, zs_1, Nat.reduceAdd, Nat.reduceLeDiff, Nat.zero_le, cat_0, cat_i, cat_r, opt_n, opt_s, true_and, nI_add, pk_mul, ua_ua, ua_s, ua_n, not_false_eq_true, Nat.reduceEqDiff, hv, xi_n (show 0 < 213 by omega) (show 213 < 2147483648 by decide)]
  refine l_lh (A0 := A) (f0 := A 21) h2 v t [] [] 0 true _ A (by omega) ht (by simp) (fun q hq => by cases hq) (fun j hj => by cases hj) (by funext j; rfl) (fun _ _ _ => rfl) (by omega) hX hr
theorem l_ls9 {l1 l4 : Value} (h2 : v ≤ 5) (hv : A 1 0 = nI v) (hX : ex_W 146 29 [.ref M, l1, .int (nI (3 ^ v)), .int (nI v), l4] [] (mdl M A g) X) : ∀ (n t : Nat), n + t = v → ex_W 146 9 [.ref M, l1, .int (nI (3 ^ t)), .int (nI t), l4] [] (mdl M A g) X := by
  intro n
  induction n with
  | zero =>
    intro t hn
    obtain rfl : t = v := by omega
    rw [s146_9]
    simp only [s146_0, s146_1, s146_2, s146_5, s146_6, s146_7, s146_8, s146_10, s146_11, s146_14, s146_15, s146_16, s146_19, s146_20, s146_21, s146_22, s146_23, s146_26, s146_30, s146_31, s146_32, s146_33, s146_36, s146_37, s146_38, s146_39, s146_42, s146_45, s146_46, s146_48, s146_50, s146_51, s146_54, s146_55, s146_56, s146_59, s146_60, s146_63, s146_64, s146_65, s146_68, s146_69, s146_71, s146_72, s146_73, s146_76, s146_78, s146_79, s146_80, s146_83, s146_86, s146_87, s146_88, s146_91, s146_92, s146_93, s146_96, s146_99, s146_102, mis, mg1, mg2, mg3, mg4, mg5, mg6, mg7, mg8, mg9, mg10, mg11, mg12, mg13, mg14, mg15, mg16, mg17, mg18, mg19, mg20, mg21, mg22, ms1, ms2, ms3, ms4, ms5, ms6, ms7, ms8, ms9, ms10, ms11, ms12, ms13, ms14, ms15, ms16, ms17, ms18, ms19, ms20, ms21, ms22, mf0, mf1, mf2, mf3, mf4, mf5, mf6, mf7, mf8, mf9, mf10, mf11, mf12, mf13, mf14, mf15, mf16, mf17, mf18, mf19, mf20, mf21, mf22, mf23, mf24, mf25, mf26, mp4, mp7, mp22, mp25, mp26, mq_0, al_I, as_I, zl_Z, zs_0, zs_1, Nat.reduceAdd, Nat.reduceLeDiff, Nat.zero_le, cat_0, cat_i, cat_r, opt_n, opt_s, true_and, nI_add, pk_mul, ua_ua, ua_s, ua_n, not_false_eq_true, Nat.reduceEqDiff, hv, xi_n (show 0 < 213 by omega) (show 213 < 2147483648 by decide)]
    rw [if_pos ((nI_l1 (by omega) (by omega)).mpr (by omega))]
    exact hX
  | succ n ih =>
    intro t hn
    rw [s146_9]
    simp only [s146_0, s146_1, s146_2, s146_5, s146_6, s146_7, s146_8, s146_10, s146_11, s146_14, s146_15, s146_16, s146_19, s146_20, s146_21, s146_22, s146_23, s146_26, s146_30, s146_31, s146_32, s146_33, s146_36, s146_37, s146_38, s146_39, s146_42, s146_45, s146_46, s146_48, s146_50, s146_51, s146_54, s146_55, s146_56, s146_59, s146_60, s146_63, s146_64, s146_65, s146_68, s146_69, s146_71, s146_72, s146_73, s146_76, s146_78, s146_79, s146_80, s146_83, s146_86, s146_87, s146_88, s146_91, s146_92, s146_93, s146_96, s146_99, s146_102, mis, mg1, mg2, mg3, mg4, mg5, mg6, mg7, mg8, mg9, mg10, mg11, mg12, mg13, mg14, mg15, mg16, mg17, mg18, mg19, mg20, mg21, mg22, ms1, ms2, ms3, ms4, ms5, ms6, ms7, ms8, ms9, ms10, ms11, ms12, ms13, ms14, ms15, ms16, ms17, ms18, ms19, ms20, ms21, ms22, mf0, mf1, mf2, mf3, mf4, mf5, mf6, mf7, mf8, mf9, mf10, mf11, mf12, mf13, mf14, mf15, mf16, mf17, mf18, mf19, mf20, mf21, mf22, mf23, mf24, mf25, mf26, mp4, mp7, mp22, mp25, mp26, mq_0, al_I, as_I, zl_Z, zs_0, zs_1, Nat.reduceAdd, Nat.reduceLeDiff, Nat.zero_le, cat_0, cat_i, cat_r, opt_n, opt_s, true_and, nI_add, pk_mul, ua_ua, ua_s, ua_n, not_false_eq_true, Nat.reduceEqDiff, hv, xi_n (show 0 < 213 by omega) (show 213 < 2147483648 by decide), ← Nat.pow_succ]
    rw [if_neg (fun z => absurd ((nI_l1 (by omega) (by omega)).mp z) (by omega))]
    exact ih (t + 1) (by omega)
theorem l_ls48 {n0 : Nat} {l1 l2 l3 : Value} (h1 : 1 ≤ v) (h2 : v ≤ 5) (hn0 : n0 < 10) (hv : A 1 0 = nI v) (hd : A 0 2 = nI n0) (hX : ∀ f : Nat → Int32, (∀ q, f q = if 5 * n0 ≤ q ∧ q < 5 * n0 + v then A 21 (q - 5 * n0) else A 20 q) → ex_W 146 86 [.ref M, l1, l2, l3, .int (nI v)] [] (mdl M (ua A 20 f) g) X) : ∀ (n t : Nat) (f : Nat → Int32), n + t = v → (∀ q, f q = if 5 * n0 ≤ q ∧ q < 5 * n0 + t then A 21 (q - 5 * n0) else A 20 q) → ex_W 146 48 [.ref M, l1, l2, l3, .int (nI t)] [] (mdl M (ua A 20 f) g) X := by
  intro n
  induction n with
  | zero =>
    intro t f hn hf
    obtain rfl : t = v := by omega
    rw [s146_48]
    simp only [s146_0, s146_1, s146_2, s146_5, s146_6, s146_7, s146_8, s146_9, s146_10, s146_11, s146_14, s146_15, s146_16, s146_19, s146_20, s146_21, s146_22, s146_23, s146_26, s146_29, s146_30, s146_31, s146_32, s146_33, s146_36, s146_37, s146_38, s146_39, s146_42, s146_45, s146_46, s146_50, s146_51, s146_54, s146_55, s146_56, s146_59, s146_60, s146_63, s146_64, s146_65, s146_68, s146_69, s146_71, s146_72, s146_73, s146_76, s146_78, s146_79, s146_80, s146_83, s146_87, s146_88, s146_91, s146_92, s146_93, s146_96, s146_99, s146_102, mis, mg1, mg2, mg3, mg4, mg5, mg6, mg7, mg8, mg9, mg10, mg11, mg12, mg13, mg14, mg15, mg16, mg17, mg18, mg19, mg20, mg21, mg22, ms1, ms2, ms3, ms4, ms5, ms6, ms7, ms8, ms9, ms10, ms11, ms12, ms13, ms14, ms15, ms16, ms17, ms18, ms19, ms20, ms21, ms22, mf0, mf1, mf2, mf3, mf4, mf5, mf6, mf7, mf8, mf9, mf10, mf11, mf12, mf13, mf14, mf15, mf16, mf17, mf18, mf19, mf20, mf21, mf22, mf23, mf24, mf25, mf26, mp4, mp7, mp22, mp25, mp26, mq_0, al_I, as_I, zl_Z, zs_0, zs_1, Nat.reduceAdd, Nat.reduceLeDiff, Nat.zero_le, cat_0, cat_i, cat_r, opt_n, opt_s, true_and, nI_add, pk_mul, ua_ua, ua_s, ua_n, not_false_eq_true, Nat.reduceEqDiff, hv, xi_n (show 0 < 213 by omega) (show 213 < 2147483648 by decide)]
    rw [if_pos ((nI_l1 (by omega) (by omega)).mpr (by omega))]
    exact hX f hf
  | succ n ih =>
    intro t f hn hf
    rw [s146_48]
    simp only [s146_0, s146_1, s146_2, s146_5, s146_6, s146_7, s146_8, s146_9, s146_10, s146_11, s146_14, s146_15, s146_16, s146_19, s146_20, s146_21, s146_22, s146_23, s146_26, s146_29, s146_30, s146_31, s146_32, s146_33, s146_36, s146_37, s146_38, s146_39, s146_42, s146_45, s146_46, s146_50, s146_51, s146_54, s146_55, s146_56, s146_59, s146_60, s146_63, s146_64, s146_65, s146_68, s146_69, s146_71, s146_72, s146_73, s146_76, s146_78, s146_79, s146_80, s146_83, s146_87, s146_88, s146_91, s146_92, s146_93, s146_96, s146_99, s146_102, mis, mg1, mg2, mg3, mg4, mg5, mg6, mg7, mg8, mg9, mg10, mg11, mg12, mg13, mg14, mg15, mg16, mg17, mg18, mg19, mg20, mg21, mg22, ms1, ms2, ms3, ms4, ms5, ms6, ms7, ms8, ms9, ms10, ms11, ms12, ms13, ms14, ms15, ms16, ms17, ms18, ms19, ms20, ms21, ms22, mf0, mf1, mf2, mf3, mf4, mf5, mf6, mf7, mf8, mf9, mf10, mf11, mf12, mf13, mf14, mf15, mf16, mf17, mf18, mf19, mf20, mf21, mf22, mf23, mf24, mf25, mf26, mp4, mp7, mp22, mp25, mp26, mq_0, al_I, as_I, zl_Z, zs_0, zs_1, Nat.reduceAdd, Nat.reduceLeDiff, Nat.zero_le, cat_0, cat_i, cat_r, opt_n, opt_s, true_and, nI_add, pk_mul, ua_ua, ua_s, ua_n, not_false_eq_true, Nat.reduceEqDiff, hv, hd, xi_n (show 0 < 213 by omega) (show 213 < 2147483648 by decide), xi_n (show 5 * n0 + t < 60 by omega) (show 60 < 2147483648 by decide), xi_n (show t < 5 by omega) (show 5 < 2147483648 by decide)]
    rw [if_neg (fun z => absurd ((nI_l1 (by omega) (by omega)).mp z) (by omega))]
    refine ih (t + 1) _ (by omega) (fun q => ?_)
    by_cases hq : q = 5 * n0 + t
    · rw [hq, pk_us, if_pos (by omega), show 5 * n0 + t - 5 * n0 = t by omega]
    · rw [pk_un hq, hf q]
      by_cases hc : 5 * n0 ≤ q ∧ q < 5 * n0 + t
      · rw [if_pos hc, if_pos (by omega)]
      · rw [if_neg hc, if_neg (by omega)]
def hTab (v r : Nat) (A : Nat → Nat → Int32) : Prop := A 0 2 = nI (tHn v r) ∧ ∀ i, i < tHn v r → ∀ j, j < v → A 20 (5 * i + j) = hV (tH v r i j)
theorem l_ls31 (h1 : 1 ≤ v) (h2 : v ≤ 5) (hr : okR v r) (hv : A0 1 0 = nI v) (hX : ∀ B, mKeep A0 B → hTab v r B → X none (mdl M B g)) : ∀ (n t : Nat) (l4 : Value) (A : Nat → Nat → Int32), n + t = 3 ^ v → mKeep A0 A → A 0 2 = nI (tHix v r t) → (∀ i, i < tHix v r t → ∀ j, j < v → A 20 (5 * i + j) = hV (tH v r i j)) → ex_W 146 31 [.ref M, .int (nI r), .int (nI (3 ^ v)), .int (nI t), l4] [] (mdl M A g) X := by
  have hp : 3 ^ v ≤ 3 ^ 5 := Nat.pow_le_pow_right (by decide) h2
  have hp5 : (3 : Nat) ^ 5 = 243 := rfl
  have hrv := hr.1
  obtain ⟨k0, k1, k2, k3⟩ := tHf0 h1 h2 hr
  intro n
  induction n with
  | zero =>
    intro t l4 A hn hA h0 hd
    obtain rfl : t = 3 ^ v := by omega
    rw [s146_31]
    simp only [s146_0, s146_1, s146_2, s146_5, s146_6, s146_7, s146_8, s146_9, s146_10, s146_11, s146_14, s146_15, s146_16, s146_19, s146_20, s146_21, s146_22, s146_23, s146_26, s146_29, s146_30, s146_32, s146_33, s146_36, s146_37, s146_38, s146_39, s146_42, s146_45, s146_46, s146_48, s146_50, s146_51, s146_54, s146_55, s146_56, s146_59, s146_60, s146_63, s146_64, s146_65, s146_68, s146_69, s146_71, s146_72, s146_73, s146_76, s146_78, s146_79, s146_80, s146_83, s146_86, s146_87, s146_88, s146_91, s146_92, s146_93, s146_96, s146_99, s146_102, mis, mg1, mg2, mg3, mg4, mg5, mg6, mg7, mg8, mg9, mg10, mg11, mg12, mg13, mg14, mg15, mg16, mg17, mg18, mg19, mg20, mg21, mg22, ms1, ms2, ms3, ms4, ms5, ms6, ms7, ms8, ms9, ms10, ms11, ms12, ms13, ms14, ms15, ms16, ms17, ms18, ms19, ms20, ms21, ms22, mf0, mf1, mf2, mf3, mf4, mf5, mf6, mf7, mf8, mf9, mf10, mf11, mf12, mf13, mf14, mf15, mf16, mf17, mf18, mf19, mf20, mf21, mf22, mf23, mf24, mf25, mf26, mp4, mp7, mp22, mp25, mp26, mq_0, al_I, as_I, zl_Z, zs_0, zs_1, Nat.reduceAdd, Nat.reduceLeDiff, Nat.zero_le, cat_0, cat_i, cat_r, opt_n, opt_s, true_and, nI_add, pk_mul, ua_ua, ua_s, ua_n, not_false_eq_true, Nat.reduceEqDiff]
    rw [if_pos ((nI_l1 (by omega) (by omega)).mpr (by omega))]
    rw [k1] at h0 hd
    exact hX A hA ⟨h0, hd⟩
  | succ n ih =>
    intro t l4 A hn hA h0 hd
    have ht : t < 3 ^ v := by omega
    have hv' : A 1 0 = nI v := by rw [hA.one]; exact hv
    rw [s146_31]
    simp only [s146_0, s146_1, s146_2, s146_5, s146_6, s146_7, s146_8, s146_9, s146_10, s146_11, s146_14, s146_15, s146_16, s146_19, s146_20, s146_21, s146_22, s146_23, s146_26, s146_29, s146_30, s146_32, s146_33, s146_36, s146_37, s146_38, s146_39, s146_42, s146_45, s146_46, s146_50, s146_51, s146_54, s146_55, s146_56, s146_59, s146_60, s146_63, s146_64, s146_65, s146_68, s146_69, s146_71, s146_72, s146_73, s146_76, s146_78, s146_79, s146_80, s146_83, s146_86, s146_87, s146_88, s146_91, s146_92, s146_93, s146_99, s146_102, mis, mg1, mg2, mg3, mg4, mg5, mg6, mg7, mg8, mg9, mg10, mg11, mg12, mg13, mg14, mg15, mg16, mg17, mg18, mg19, mg20, mg21, mg22, ms1, ms2, ms3, ms4, ms5, ms6, ms7, ms8, ms9, ms10, ms11, ms12, ms13, ms14, ms15, ms16, ms17, ms18, ms19, ms20, ms21, ms22, mf0, mf1, mf2, mf3, mf4, mf5, mf6, mf7, mf8, mf9, mf10, mf11, mf12, mf13, mf14, mf15, mf16, mf17, mf18, mf19, mf20, mf21, mf22, mf23, mf24, mf25, mf26, mp4, mp7, mp22, mp25, mp26, mq_0, al_I, as_I, zl_Z, zs_0, zs_1, Nat.reduceAdd, Nat.reduceLeDiff, Nat.zero_le, cat_0, cat_i, cat_r, opt_n, opt_s, true_and, nI_add, pk_mul, ua_ua, ua_s, ua_n, not_false_eq_true, Nat.reduceEqDiff]
    rw [if_neg (fun z => absurd ((nI_l1 (by omega) (by omega)).mp z) (by omega))]
    refine r_layHalf h1 h2 hv' (by omega) (by omega) (fun B hB h21 => ?_)
    have hB0 : B 0 = A 0 := hB 0 (by decide) (by decide)
    have hAB : mKeep A B := ⟨by rw [hB0], by rw [hB0], fun k q1 q2 => hB k (by omega) (by omega)⟩
    have hB20 : B 20 = A 20 := hB 20 (by decide) (by decide)
    by_cases hi : isLh r (lhf v t [] [] 0 true) = true
    · obtain ⟨⟨a1, a2, a3⟩, a4⟩ := tHfS h1 h2 hr ht hi
      rw [hi]
      simp only [s146_0, s146_1, s146_2, s146_5, s146_6, s146_7, s146_8, s146_9, s146_10, s146_11, s146_14, s146_15, s146_16, s146_19, s146_20, s146_21, s146_22, s146_23, s146_26, s146_29, s146_30, s146_32, s146_33, s146_36, s146_37, s146_38, s146_39, s146_42, s146_45, s146_46, s146_50, s146_51, s146_54, s146_55, s146_56, s146_59, s146_60, s146_63, s146_64, s146_65, s146_68, s146_69, s146_71, s146_72, s146_73, s146_76, s146_78, s146_79, s146_80, s146_83, s146_86, s146_87, s146_88, s146_91, s146_92, s146_93, s146_99, s146_102, mis, mg1, mg2, mg3, mg4, mg5, mg6, mg7, mg8, mg9, mg10, mg11, mg12, mg13, mg14, mg15, mg16, mg17, mg18, mg19, mg20, mg21, mg22, ms1, ms2, ms3, ms4, ms5, ms6, ms7, ms8, ms9, ms10, ms11, ms12, ms13, ms14, ms15, ms16, ms17, ms18, ms19, ms20, ms21, ms22, mf0, mf1, mf2, mf3, mf4, mf5, mf6, mf7, mf8, mf9, mf10, mf11, mf12, mf13, mf14, mf15, mf16, mf17, mf18, mf19, mf20, mf21, mf22, mf23, mf24, mf25, mf26, mp4, mp7, mp22, mp25, mp26, mq_0, al_I, as_I, zl_Z, zs_0, zs_1, Nat.reduceAdd, Nat.reduceLeDiff, Nat.zero_le, cat_0, cat_i, cat_r, opt_n, opt_s, true_and, nI_add, pk_mul, ua_ua, ua_s, ua_n, not_false_eq_true, Nat.reduceEqDiff]
      rw [if_neg (show ¬ bI true = nI 0 by decide)]
      have h48 := l_ls48 (M := M) (A := B) (g := g) (X := X) (n0 := tHix v r t) (l1 := .int (nI r)) (l2 := .int (nI (3 ^ v))) (l3 := .int (nI t)) h1 h2 (by omega) (by rw [hAB.one]; exact hv') (by rw [hB0]; exact h0) (fun f hf => ?_) v 0 (B 20) (by omega) (fun q => by rw [if_neg (by omega)])
      · rw [ua_id] at h48
        exact h48
      have h02 : B 0 2 = nI (tHix v r t) := by rw [hB0]; exact h0
      simp only [s146_0, s146_1, s146_2, s146_5, s146_6, s146_7, s146_8, s146_9, s146_10, s146_11, s146_14, s146_15, s146_16, s146_19, s146_20, s146_21, s146_22, s146_23, s146_26, s146_29, s146_30, s146_32, s146_33, s146_36, s146_37, s146_38, s146_39, s146_42, s146_45, s146_46, s146_50, s146_51, s146_54, s146_55, s146_56, s146_59, s146_60, s146_63, s146_64, s146_65, s146_68, s146_69, s146_71, s146_72, s146_73, s146_76, s146_78, s146_79, s146_80, s146_83, s146_86, s146_87, s146_88, s146_91, s146_92, s146_93, s146_96, s146_99, s146_102, mis, mg1, mg2, mg3, mg4, mg5, mg6, mg7, mg8, mg9, mg10, mg11, mg12, mg13, mg14, mg15, mg16, mg17, mg18, mg19, mg20, mg21, mg22, ms1, ms2, ms3, ms4, ms5, ms6, ms7, ms8, ms9, ms10, ms11, ms12, ms13, ms14, ms15, ms16, ms17, ms18, ms19, ms20, ms21, ms22, mf0, mf1, mf2, mf3, mf4, mf5, mf6, mf7, mf8, mf9, mf10, mf11, mf12, mf13, mf14, mf15, mf16, mf17, mf18, mf19, mf20, mf21, mf22, mf23, mf24, mf25, mf26, mp4, mp7, mp22, mp25, mp26, mq_0, al_I, as_I, zl_Z, zs_0, zs_1, Nat.reduceAdd, Nat.reduceLeDiff, Nat.zero_le, cat_0, cat_i, cat_r, opt_n, opt_s, true_and, nI_add, pk_mul, ua_ua, ua_s, ua_n, not_false_eq_true, Nat.reduceEqDiff, h02]
      rw [← a1]
      refine ih (t + 1) _ _ (by omega) (mKeep.trans (hA.trans hAB) ⟨?_, ?_, fun k q1 q2 => ?_⟩) ?_ (fun i hi2 j hj => ?_)
      · rw [ua_s, pk_un (by decide)]
      · rw [ua_s, pk_un (by decide)]
      · rw [ua_n (by omega), ua_n (by omega)]
      · rw [ua_s, pk_us]
      · rw [ua_n (by decide), ua_s, hf]
        rw [a1] at hi2
        by_cases hc : i = tHix v r t
        · subst hc
          rw [if_pos (by omega), show 5 * tHix v r t + j - 5 * tHix v r t = j by omega, h21]
          unfold wrH
          rw [a4 j hj]
        · rw [if_neg (by omega), hB20]
          exact hd i (by omega) j hj
    · have a1 := tHfN h1 h2 hr ht hi
      rw [Bool.not_eq_true] at hi
      rw [hi]
      simp only [s146_0, s146_1, s146_2, s146_5, s146_6, s146_7, s146_8, s146_9, s146_10, s146_11, s146_14, s146_15, s146_16, s146_19, s146_20, s146_21, s146_22, s146_23, s146_26, s146_29, s146_30, s146_32, s146_33, s146_36, s146_37, s146_38, s146_39, s146_42, s146_45, s146_46, s146_50, s146_51, s146_54, s146_55, s146_56, s146_59, s146_60, s146_63, s146_64, s146_65, s146_68, s146_69, s146_71, s146_72, s146_73, s146_76, s146_78, s146_79, s146_80, s146_83, s146_86, s146_87, s146_88, s146_91, s146_92, s146_93, s146_96, s146_99, s146_102, mis, mg1, mg2, mg3, mg4, mg5, mg6, mg7, mg8, mg9, mg10, mg11, mg12, mg13, mg14, mg15, mg16, mg17, mg18, mg19, mg20, mg21, mg22, ms1, ms2, ms3, ms4, ms5, ms6, ms7, ms8, ms9, ms10, ms11, ms12, ms13, ms14, ms15, ms16, ms17, ms18, ms19, ms20, ms21, ms22, mf0, mf1, mf2, mf3, mf4, mf5, mf6, mf7, mf8, mf9, mf10, mf11, mf12, mf13, mf14, mf15, mf16, mf17, mf18, mf19, mf20, mf21, mf22, mf23, mf24, mf25, mf26, mp4, mp7, mp22, mp25, mp26, mq_0, al_I, as_I, zl_Z, zs_0, zs_1, Nat.reduceAdd, Nat.reduceLeDiff, Nat.zero_le, cat_0, cat_i, cat_r, opt_n, opt_s, true_and, nI_add, pk_mul, ua_ua, ua_s, ua_n, not_false_eq_true, Nat.reduceEqDiff]
      rw [if_pos (show bI false = nI 0 by decide)]
      exact ih (t + 1) _ B (by omega) (hA.trans hAB) (by rw [a1, hB0]; exact h0) (fun i hi2 j hj => by rw [hB20]; exact hd i (by omega) j hj)
theorem r_layHalves (h1 : 1 ≤ v) (h2 : v ≤ 5) (hr : okR v r) (hv : A 1 0 = nI v) (hX : ∀ B, mKeep A B → hTab v r B → X none (mdl M B g)) : ex_W 146 0 [.ref M, .int (nI r), oU, oU, oU] [] (mdl M A g) X := by
  simp only [s146_0, s146_1, s146_2, s146_5, s146_6, s146_7, s146_8, s146_10, s146_11, s146_14, s146_15, s146_16, s146_19, s146_20, s146_21, s146_22, s146_23, s146_26, s146_29, s146_30, s146_32, s146_33, s146_36, s146_37, s146_38, s146_39, s146_42, s146_45, s146_46, s146_48, s146_50, s146_51, s146_54, s146_55, s146_56, s146_59, s146_60, s146_63, s146_64, s146_65, s146_68, s146_69, s146_71, s146_72, s146_73, s146_76, s146_78, s146_79, s146_80, s146_83, s146_86, s146_87, s146_88, s146_91, s146_92, s146_93, s146_96, s146_99, s146_102, mis, mg1, mg2, mg3, mg4, mg5, mg6, mg7, mg8, mg9, mg10, mg11, mg12, mg13, mg14, mg15, mg16, mg17, mg18, mg19, mg20, mg21, mg22, ms1, ms2, ms3, ms4, ms5, ms6, ms7, ms8, ms9, ms10, ms11, ms12, ms13, ms14, ms15, ms16, ms17, ms18, ms19, ms20, ms21, ms22, mf0, mf1, mf2, mf3, mf4, mf5, mf6, mf7, mf8, mf9, mf10, mf11, mf12, mf13, mf14, mf15, mf16, mf17, mf18, mf19, mf20, mf21, mf22, mf23, mf24, mf25, mf26, mp4, mp7, mp22, mp25, mp26, mq_0, al_I, as_I, zl_Z, zs_0, zs_1, Nat.reduceAdd, Nat.reduceLeDiff, Nat.zero_le, cat_0, cat_i, cat_r, opt_n, opt_s, true_and, nI_add, pk_mul, ua_ua, ua_s, ua_n, not_false_eq_true, Nat.reduceEqDiff]
  refine l_ls9 h2 (by rw [ua_n (by decide)]; exact hv) ?_ v 0 (by omega)
  rw [s146_29, s146_30]
  refine l_ls31 h1 h2 hr hv hX (3 ^ v) 0 _ _ (by omega) (mKeep.rfl'.u0 (by decide)) ?_ (fun i hi => ?_)
  · rw [ua_s, pk_us, (tHf0 h1 h2 hr).1]
  · rw [(tHf0 h1 h2 hr).1] at hi
    omega
theorem l_ct {x y : Nat} {l3 : Value} (h1 : 1 ≤ v) (h2 : v ≤ 5) (hr : okR v r) (hx : x < tHn v r) (hy : y < tHn v r) (hH : hTab v r A) : ∀ (n nx : Nat) (oth : Bool) (ms : List Nat) (l4 : Value) (res : Bool) (ms' : List Nat), nx ≤ 5 → ctr v r x y n oth nx ms = some (res, ms') → X (some (.int (bI res))) (mdl M (ua A 11 (mz ms' f0)) g) → ex_W 147 27 [.ref M, .int (nI x), .int (nI y), l3, l4, .int (bI oth), .int (hV nx)] [] (mdl M (ua A 11 (mz ms f0)) g) X := by
  obtain ⟨_, _, k2, k3⟩ := tHf0 h1 h2 hr
  intro n
  induction n with
  | zero => intro nx oth ms l4 res ms' hn he; cases he
  | succ n ih =>
    intro nx oth ms l4 res ms' hn he hX
    rw [ctr] at he
    rw [s147_27]
    by_cases h5 : nx = 5
    · rw [if_pos h5] at he
      cases he
      subst h5
      simp only [s147_0, s147_1, s147_3, s147_4, s147_6, s147_7, s147_10, s147_12, s147_13, s147_14, s147_15, s147_18, s147_19, s147_20, s147_21, s147_23, s147_24, s147_25, s147_29, s147_32, s147_34, s147_36, s147_37, s147_40, s147_42, s147_43, s147_44, s147_46, s147_49, s147_50, s147_53, s147_54, s147_56, s147_57, s147_60, s147_61, s147_63, s147_66, s147_67, s147_70, s147_71, s147_72, s147_74, s147_75, s147_76, s147_78, s147_81, s147_83, mis, mg1, mg2, mg3, mg4, mg5, mg6, mg7, mg8, mg9, mg10, mg11, mg12, mg13, mg14, mg15, mg16, mg17, mg18, mg19, mg20, mg21, mg22, ms1, ms2, ms3, ms4, ms5, ms6, ms7, ms8, ms9, ms10, ms11, ms12, ms13, ms14, ms15, ms16, ms17, ms18, ms19, ms20, ms21, ms22, mf0, mf1, mf2, mf3, mf4, mf5, mf6, mf7, mf8, mf9, mf10, mf11, mf12, mf13, mf14, mf15, mf16, mf17, mf18, mf19, mf20, mf21, mf22, mf23, mf24, mf25, mf26, mp4, mp7, mp22, mp25, mp26, mq_0, al_I, as_I, zl_Z, zs_0, zs_1, Nat.reduceAdd, Nat.reduceLeDiff, Nat.zero_le, cat_0, cat_i, cat_r, opt_n, opt_s, true_and, nI_add, pk_mul, ua_ua, ua_s, ua_n, not_false_eq_true, Nat.reduceEqDiff, hV_5]
      rw [if_pos (by decide)]
      refine ⟨?_, hX⟩
      cases oth
      · exact Or.inl rfl
      · exact Or.inr rfl
    · rw [if_neg h5] at he
      by_cases hnv : nx < v
      · rw [if_pos hnv] at he
        have q1 := (tH_lt h1 h2 hr hx hnv).1
        have q2 := (tH_lt h1 h2 hr hy hnv).1
        simp only [s147_0, s147_1, s147_3, s147_4, s147_6, s147_7, s147_10, s147_12, s147_13, s147_14, s147_15, s147_18, s147_19, s147_20, s147_21, s147_23, s147_24, s147_25, s147_29, s147_32, s147_34, s147_36, s147_37, s147_40, s147_42, s147_43, s147_44, s147_46, s147_49, s147_50, s147_53, s147_54, s147_56, s147_57, s147_60, s147_61, s147_63, s147_66, s147_67, s147_70, s147_71, s147_72, s147_74, s147_75, s147_76, s147_78, s147_81, s147_83, mis, mg1, mg2, mg3, mg4, mg5, mg6, mg7, mg8, mg9, mg10, mg11, mg12, mg13, mg14, mg15, mg16, mg17, mg18, mg19, mg20, mg21, mg22, ms1, ms2, ms3, ms4, ms5, ms6, ms7, ms8, ms9, ms10, ms11, ms12, ms13, ms14, ms15, ms16, ms17, ms18, ms19, ms20, ms21, ms22, mf0, mf1, mf2, mf3, mf4, mf5, mf6, mf7, mf8, mf9, mf10, mf11, mf12, mf13, mf14, mf15, mf16, mf17, mf18, mf19, mf20, mf21, mf22, mf23, mf24, mf25, mf26, mp4, mp7, mp22, mp25, mp26, mq_0, al_I, as_I, zl_Z, zs_0, zs_1, Nat.reduceAdd, Nat.reduceLeDiff, Nat.zero_le, cat_0, cat_i, cat_r, opt_n, opt_s, true_and, nI_add, pk_mul, ua_ua, ua_s, ua_n, not_false_eq_true, Nat.reduceEqDiff, hV_n h5, xi_n (show nx < 5 by omega) (show 5 < 2147483648 by decide), mz_c]
        rw [if_neg (fun z => absurd ((nI_l2 (by omega) (by omega)).mp z) (by omega))]
        cases oth with
        | true =>
          rw [if_pos (show ¬ bI true = nI 0 by decide)]
          simp only [s147_0, s147_1, s147_3, s147_4, s147_6, s147_7, s147_10, s147_12, s147_13, s147_14, s147_15, s147_18, s147_19, s147_20, s147_21, s147_23, s147_24, s147_25, s147_29, s147_32, s147_34, s147_36, s147_37, s147_40, s147_42, s147_43, s147_44, s147_46, s147_49, s147_50, s147_53, s147_54, s147_56, s147_57, s147_60, s147_61, s147_63, s147_66, s147_67, s147_70, s147_71, s147_72, s147_74, s147_75, s147_76, s147_78, s147_81, s147_83, mis, mg1, mg2, mg3, mg4, mg5, mg6, mg7, mg8, mg9, mg10, mg11, mg12, mg13, mg14, mg15, mg16, mg17, mg18, mg19, mg20, mg21, mg22, ms1, ms2, ms3, ms4, ms5, ms6, ms7, ms8, ms9, ms10, ms11, ms12, ms13, ms14, ms15, ms16, ms17, ms18, ms19, ms20, ms21, ms22, mf0, mf1, mf2, mf3, mf4, mf5, mf6, mf7, mf8, mf9, mf10, mf11, mf12, mf13, mf14, mf15, mf16, mf17, mf18, mf19, mf20, mf21, mf22, mf23, mf24, mf25, mf26, mp4, mp7, mp22, mp25, mp26, mq_0, al_I, as_I, zl_Z, zs_0, zs_1, Nat.reduceAdd, Nat.reduceLeDiff, Nat.zero_le, cat_0, cat_i, cat_r, opt_n, opt_s, true_and, nI_add, pk_mul, ua_ua, ua_s, ua_n, not_false_eq_true, Nat.reduceEqDiff, xi_n (show 5 * x + nx < 60 by omega) (show 60 < 2147483648 by decide), hH.2 x hx nx hnv, if_true]
          exact ih _ false _ _ _ _ q1 he hX
        | false =>
          rw [if_neg (show ¬ ¬ bI false = nI 0 by decide)]
          simp only [s147_0, s147_1, s147_3, s147_4, s147_6, s147_7, s147_10, s147_12, s147_13, s147_14, s147_15, s147_18, s147_19, s147_20, s147_21, s147_23, s147_24, s147_25, s147_29, s147_32, s147_34, s147_36, s147_37, s147_40, s147_42, s147_43, s147_44, s147_46, s147_49, s147_50, s147_53, s147_54, s147_56, s147_57, s147_60, s147_61, s147_63, s147_66, s147_67, s147_70, s147_71, s147_72, s147_74, s147_75, s147_76, s147_78, s147_81, s147_83, mis, mg1, mg2, mg3, mg4, mg5, mg6, mg7, mg8, mg9, mg10, mg11, mg12, mg13, mg14, mg15, mg16, mg17, mg18, mg19, mg20, mg21, mg22, ms1, ms2, ms3, ms4, ms5, ms6, ms7, ms8, ms9, ms10, ms11, ms12, ms13, ms14, ms15, ms16, ms17, ms18, ms19, ms20, ms21, ms22, mf0, mf1, mf2, mf3, mf4, mf5, mf6, mf7, mf8, mf9, mf10, mf11, mf12, mf13, mf14, mf15, mf16, mf17, mf18, mf19, mf20, mf21, mf22, mf23, mf24, mf25, mf26, mp4, mp7, mp22, mp25, mp26, mq_0, al_I, as_I, zl_Z, zs_0, zs_1, Nat.reduceAdd, Nat.reduceLeDiff, Nat.zero_le, cat_0, cat_i, cat_r, opt_n, opt_s, true_and, nI_add, pk_mul, ua_ua, ua_s, ua_n, not_false_eq_true, Nat.reduceEqDiff, xi_n (show 5 * y + nx < 60 by omega) (show 60 < 2147483648 by decide), hH.2 y hy nx hnv, i10, i10n, not_true_eq_false, if_false, if_true]
          exact ih _ true _ _ _ _ q2 he hX
      · rw [if_neg hnv] at he
        cases he
end M12
