/-! THE CLASS: texts -/
def wrO (ws : List (Nat × Nat)) (f : Nat → Int32) : Nat → Int32 := fun j => match ws.lookup j with
  | some q => oV q
  | none => f j
theorem wrO_cons {k q : Nat} {ws : List (Nat × Nat)} {f : Nat → Int32} : wrO ((k, q) :: ws) f = upd (wrO ws f) k (oV q) := by
  funext j
  by_cases h : j = k
  · subst h
    simp [wrO, upd]
  · have hb : (j == k) = false := by simp [h]
    simp [wrO, upd, h, List.lookup, hb]
def rdc (B : Nat) : Nat → Nat → List Nat → List (Nat × Nat) → Nat → Option (List Nat × List (Nat × Nat) × Nat)
  | 0, _, stk, ws, o => some (stk, ws, o)
  | n + 1, c, stk, ws, o => if c % B = 1 then rdc B n (c / B) (n :: stk) ws o else if c % B = 0 then (match stk with
    | [] => none
    | q :: s => rdc B n (c / B) s ((q, n) :: (n, q) :: ws) o) else (match stk with
    | [] => rdc B n (c / B) [] ((n, 99) :: ws) (o + 1)
    | _ :: _ => none)
theorem rdc_s {B n c o : Nat} {stk : List Nat} {ws : List (Nat × Nat)} : rdc B (n + 1) c stk ws o = if c % B = 1 then rdc B n (c / B) (n :: stk) ws o else if c % B = 0 then (match stk with
    | [] => none
    | q :: s => rdc B n (c / B) s ((q, n) :: (n, q) :: ws) o) else (match stk with
    | [] => rdc B n (c / B) [] ((n, 99) :: ws) (o + 1)
    | _ :: _ => none) := by
  cases stk <;> rfl
def okc (o : Nat) (x : Option (List Nat × List (Nat × Nat) × Nat)) : Bool := match x with
  | some (stk, _, o') => stk.isEmpty && decide (o' = o)
  | none => false
def wsO (x : Option (List Nat × List (Nat × Nat) × Nat)) : List (Nat × Nat) := match x with
  | some (_, ws, _) => ws
  | none => []
def bs (o : Nat) : Nat := if o = 0 then 2 else 3
def cL (P o : Nat) : List Nat := if o = 0 then tCodes (P / 2) else tHC P o
def cIx (P o t : Nat) : Nat := ((cL P o).filter (fun c => decide (c < t))).length
def rL (P o i j : Nat) : Nat := if o = 0 then tR (P / 2) i j else hF P o i j
def vPs : List (Nat × Nat) := [(2, 0), (4, 0), (6, 0), (8, 0), (10, 0), (1, 1), (2, 2), (3, 3), (3, 1), (4, 4), (4, 2), (5, 5), (5, 3), (5, 1)]
abbrev vP (P o : Nat) : Prop := (P, o) ∈ vPs
theorem vP_k : vPs.all (fun x => decide (1 ≤ x.1 ∧ x.1 ≤ 10 ∧ x.2 ≤ 5 ∧ cIx x.1 x.2 0 = 0 ∧ cIx x.1 x.2 (bs x.2 ^ x.1) = (cL x.1 x.2).length ∧ (cL x.1 x.2).length ≤ 42 ∧ 1 ≤ (cL x.1 x.2).length ∧ bs x.2 ^ x.1 ≤ 1024) && allN (bs x.2 ^ x.1) (fun t => decide (cIx x.1 x.2 t ≤ (cL x.1 x.2).length) && if okc x.2 (rdc (bs x.2) x.1 t [] [] 0) = true then decide (cIx x.1 x.2 (t + 1) = cIx x.1 x.2 t + 1 ∧ (cL x.1 x.2).getD (cIx x.1 x.2 t) 0 = t ∧ cIx x.1 x.2 t < (cL x.1 x.2).length) && allN x.1 (fun j => decide ((wsO (rdc (bs x.2) x.1 t [] [] 0)).lookup j = some (rL x.1 x.2 (cIx x.1 x.2 t) j))) else decide (cIx x.1 x.2 (t + 1) = cIx x.1 x.2 t)) && allN (cL x.1 x.2).length (fun i => decide (cIx x.1 x.2 ((cL x.1 x.2).getD i 0) = i ∧ (cL x.1 x.2).getD i 0 < bs x.2 ^ x.1) && okc x.2 (rdc (bs x.2) x.1 ((cL x.1 x.2).getD i 0) [] [] 0))) = true := by decide +kernel
section C2
variable {h : ex_Hp} {X : Option Value → ex_Hp → Prop} {P o t w r : Nat} {c0 c1 c2 : Value}
theorem vP0 (hv : vP P o) : 1 ≤ P ∧ P ≤ 10 ∧ o ≤ 5 ∧ cIx P o 0 = 0 ∧ cIx P o (bs o ^ P) = (cL P o).length ∧ (cL P o).length ≤ 42 ∧ 1 ≤ (cL P o).length ∧ bs o ^ P ≤ 1024 := by
  have q := List.all_eq_true.mp vP_k _ hv
  rw [Bool.and_eq_true, Bool.and_eq_true] at q
  exact of_decide_eq_true q.1.1
theorem vPl {c : Nat} (hv : vP P o) (hc : c < bs o ^ P) : cIx P o c ≤ (cL P o).length := by
  have q := List.all_eq_true.mp vP_k _ hv
  rw [Bool.and_eq_true, Bool.and_eq_true] at q
  have q := allN_of q.1.2 hc
  rw [Bool.and_eq_true] at q
  exact of_decide_eq_true q.1
theorem vPs1 {c : Nat} (hv : vP P o) (hc : c < bs o ^ P) (hk : okc o (rdc (bs o) P c [] [] 0) = true) : (cIx P o (c + 1) = cIx P o c + 1 ∧ (cL P o).getD (cIx P o c) 0 = c ∧ cIx P o c < (cL P o).length) ∧ ∀ j, j < P → (wsO (rdc (bs o) P c [] [] 0)).lookup j = some (rL P o (cIx P o c) j) := by
  have q := List.all_eq_true.mp vP_k _ hv
  rw [Bool.and_eq_true, Bool.and_eq_true] at q
  have q := allN_of q.1.2 hc
  rw [Bool.and_eq_true] at q
  have q := q.2
  rw [if_pos hk, Bool.and_eq_true] at q
  exact ⟨of_decide_eq_true q.1, fun j hj => of_decide_eq_true (allN_of q.2 hj)⟩
theorem vPn {c : Nat} (hv : vP P o) (hc : c < bs o ^ P) (hk : ¬ okc o (rdc (bs o) P c [] [] 0) = true) : cIx P o (c + 1) = cIx P o c := by
  have q := List.all_eq_true.mp vP_k _ hv
  rw [Bool.and_eq_true, Bool.and_eq_true] at q
  have q := allN_of q.1.2 hc
  rw [Bool.and_eq_true] at q
  have q := q.2
  rw [if_neg hk] at q
  exact of_decide_eq_true q
theorem vPi {i : Nat} (hv : vP P o) (hi : i < (cL P o).length) : cIx P o ((cL P o).getD i 0) = i ∧ (cL P o).getD i 0 < bs o ^ P ∧ okc o (rdc (bs o) P ((cL P o).getD i 0) [] [] 0) = true := by
  have q := List.all_eq_true.mp vP_k _ hv
  rw [Bool.and_eq_true, Bool.and_eq_true] at q
  have q := allN_of q.2 hi
  rw [Bool.and_eq_true] at q
  have := of_decide_eq_true q.1
  exact ⟨this.1, this.2, q.2⟩
abbrev oTx (c0 c1 c2 : Value) (P o w : Nat) : ex_AC := cO 6 [c0, c1, c2, .int (nI P), .int (nI o), .int (nI (bs o)), .ref w]
theorem bs_r : bs o = 2 ∨ bs o = 3 := by unfold bs; split <;> simp
theorem m_join {p q n : Nat} {f : Nat → Int32} (hp : p < n) (hq : q < n) (hn : n < 1000) (hr : ex_g h r = some (cI n f)) : ex_W 57 0 [.ref r, .int (nI p), .int (nI q)] [] h X ↔ X none (ex_set h r (cI n (upd (upd f p (nI q)) q (nI p)))) := by
  simp only [s57_0, s57_1, s57_2, s57_3, s57_4, s57_5, s57_6, s57_7, s57_8, is_O, opt_s, opt_n, cat_0, cat_i, cat_r, true_and, Nat.zero_le, Nat.reduceAdd, Nat.reduceLeDiff, al_I, as_I, rl_R, ln_I, ln_R, nI_add, pk_mul, g_set, set_set, not_false_eq_true, gf0_0, gf0_1, gf0_2, gf1_0, gf1_1, gf1_2, gf1_3, gf1_4, gf1_5, gf1_6, gf1_7, gf1_8, gf1_9, gf1_10, gf1_11, gf2_0, gf2_1, gf2_2, gf3_0, gf3_1, gf4_0, gf4_1, gf4_2, gf5_0, gf5_1, gf5_2, gf5_3, gf6_0, gf6_1, gf6_2, gf6_3, gf6_4, gf6_5, gf6_6, gf7_0, gf7_1, gf7_2, gf7_3, gf7_4, gf7_5, pf0_0, pf0_1, pf0_2, pf1_0, pf1_1, pf1_2, pf1_3, pf1_4, pf1_5, pf1_6, pf1_7, pf1_8, pf1_9, pf1_10, pf1_11, pf2_0, pf2_1, pf2_2, pf3_0, pf3_1, pf4_0, pf4_1, pf4_2, pf5_0, pf5_1, pf5_2, pf5_3, pf6_0, pf6_1, pf6_2, pf6_3, pf6_4, pf6_5, pf6_6, pf7_0, pf7_1, pf7_2, pf7_3, pf7_4, pf7_5, hr, xi_n hp (show n < 2147483648 by omega), xi_n hq (show n < 2147483648 by omega)]
theorem l_rd {l1 : Value} {f0 : Nat → Int32} (hP : P ≤ 10) (ho5 : o ≤ 5) (ht : ex_g h t = some (oTx c0 c1 c2 P o w)) (tw : ¬ t = w) (tr : ¬ t = r) (wr' : ¬ w = r) : ∀ (n c : Nat) (stk : List Nat) (ws : List (Nat × Nat)) (op : Nat) (l7 : Value) (fw : Nat → Int32), n ≤ P → c < 2000 → stk.length + n ≤ P → (∀ q ∈ stk, q < P) → (∀ j, j < stk.length → fw j = nI (stk.reverse.getD j 0)) → op + n ≤ P →
    (∀ fw fr, (okc o (rdc (bs o) n c stk ws op) = true → fr = wrO (wsO (rdc (bs o) n c stk ws op)) f0) → X (some (.int (bI (okc o (rdc (bs o) n c stk ws op))))) (ex_set (ex_set h w (cI P fw)) r (cI P fr))) →
    ex_W 56 16 [.ref t, l1, .ref r, .int (nI c), .int (nI stk.length), .int (nI op), .int (nI n - nI 1), l7] [] (ex_set (ex_set h w (cI P fw)) r (cI P (wrO ws f0))) X := by
  have hb := bs_r (o := o)
  have gt : ∀ fw fr : Nat → Int32, ex_g (ex_set (ex_set h w (cI P fw)) r (cI P fr)) t = some (oTx c0 c1 c2 P o w) := fun fw fr => by rw [g_ne tr, g_ne tw]; exact ht
  have gw : ∀ fw fr : Nat → Int32, ex_g (ex_set (ex_set h w (cI P fw)) r (cI P fr)) w = some (cI P fw) := fun fw fr => by rw [g_ne wr', g_set]
  have sw : ∀ fw fr fw' : Nat → Int32, ex_set (ex_set (ex_set h w (cI P fw)) r (cI P fr)) w (cI P fw') = ex_set (ex_set h w (cI P fw')) r (cI P fr) := fun fw fr fw' => by rw [set_comm (fun z => wr' z.symm), set_set]
  intro n
  induction n with
  | zero =>
    intro c stk ws op l7 fw hn hc hlen hlt hs hop hX
    rw [rdc] at hX
    have hX := hX fw (wrO ws f0)
    rw [s56_16]
    simp only [s56_0, s56_1, s56_2, s56_3, s56_5, s56_6, s56_8, s56_9, s56_12, s56_13, s56_14, s56_18, s56_21, s56_22, s56_23, s56_26, s56_27, s56_29, s56_30, s56_31, s56_34, s56_35, s56_36, s56_38, s56_39, s56_42, s56_43, s56_46, s56_48, s56_50, s56_51, s56_54, s56_57, s56_59, s56_62, s56_64, s56_67, s56_70, s56_71, s56_73, s56_74, s56_77, s56_79, s56_80, s56_83, s56_86, s56_88, s56_89, s56_92, s56_94, s56_97, s56_98, s56_100, s56_101, s56_102, s56_105, s56_108, s56_109, s56_110, s56_113, s56_116, s56_118, s56_121, s56_123, s56_124, s56_127, s56_130, s56_131, s56_134, s56_135, is_O, opt_s, opt_n, cat_0, cat_i, cat_r, true_and, Nat.zero_le, Nat.reduceAdd, Nat.reduceLeDiff, al_I, as_I, rl_R, ln_I, ln_R, nI_add, pk_mul, g_set, set_set, not_false_eq_true, gf0_0, gf0_1, gf0_2, gf1_0, gf1_1, gf1_2, gf1_3, gf1_4, gf1_5, gf1_6, gf1_7, gf1_8, gf1_9, gf1_10, gf1_11, gf2_0, gf2_1, gf2_2, gf3_0, gf3_1, gf4_0, gf4_1, gf4_2, gf5_0, gf5_1, gf5_2, gf5_3, gf6_0, gf6_1, gf6_2, gf6_3, gf6_4, gf6_5, gf6_6, gf7_0, gf7_1, gf7_2, gf7_3, gf7_4, gf7_5, pf0_0, pf0_1, pf0_2, pf1_0, pf1_1, pf1_2, pf1_3, pf1_4, pf1_5, pf1_6, pf1_7, pf1_8, pf1_9, pf1_10, pf1_11, pf2_0, pf2_1, pf2_2, pf3_0, pf3_1, pf4_0, pf4_1, pf4_2, pf5_0, pf5_1, pf5_2, pf5_3, pf6_0, pf6_1, pf6_2, pf6_3, pf6_4, pf6_5, pf6_6, pf7_0, pf7_1, pf7_2, pf7_3, pf7_4, pf7_5, gt]
    rw [if_pos (by decide)]
    cases stk with
    | nil =>
      rw [if_neg (fun z => z rfl)]
      by_cases ho : op = o
      · rw [if_neg (fun z => z (by rw [ho]))]
        have e : okc o (some (([] : List Nat), ws, op)) = true := by simp [okc, ho]
        rw [e] at hX
        exact ⟨Or.inr trivial, hX (fun _ => rfl)⟩
      · rw [if_pos (fun z => absurd ((nI_e (by omega) (by omega)).mp z) (by omega))]
        have e : okc o (some (([] : List Nat), ws, op)) = false := by simp [okc, ho]
        rw [e] at hX
        exact ⟨Or.inl trivial, hX (fun z => by cases z)⟩
    | cons q s =>
      simp only [List.length_cons] at hlen ⊢
      rw [if_pos (fun z => absurd ((nI_e (by omega) (by omega)).mp z) (by omega))]
      have e : okc o (some (q :: s, ws, op)) = false := by simp [okc]
      rw [e] at hX
      exact ⟨Or.inl trivial, hX (fun z => by cases z)⟩
  | succ n ih =>
    intro c stk ws op l7 fw hn hc hlen hlt hs hop hX
    have e1 : nI (n + 1) - nI 1 = nI n := pk_sub (by omega)
    have e3 : nI c / nI (bs o) = nI (c / bs o) := pk_div (by have e : (2:Nat)^31 = 2147483648 := rfl; omega) (by omega) (by have e : (2:Nat)^31 = 2147483648 := rfl; omega)
    have hdm := Nat.div_add_mod c (bs o)
    have e2 : nI c - nI (c / bs o * bs o) = nI (c % bs o) := by
      rw [Nat.mul_comm] at hdm
      rw [pk_sub (by omega), show c - c / bs o * bs o = c % bs o by omega]
    have hcd : c / bs o < 2000 := by have := Nat.div_le_self c (bs o); omega
    have hm3 : c % bs o < 3 := by have := Nat.mod_lt c (show bs o > 0 by omega); omega
    have ez : (nI (bs o) = 0) = False := eq_false (nI_ne0 (by omega) (by have e : (2:Nat)^31 = 2147483648 := rfl; omega))
    rw [rdc_s] at hX
    rw [s56_16]
    simp only [s56_0, s56_1, s56_2, s56_3, s56_5, s56_6, s56_8, s56_9, s56_12, s56_13, s56_14, s56_18, s56_21, s56_22, s56_23, s56_26, s56_27, s56_29, s56_30, s56_31, s56_34, s56_35, s56_36, s56_38, s56_39, s56_42, s56_43, s56_46, s56_48, s56_50, s56_51, s56_54, s56_57, s56_59, s56_62, s56_64, s56_67, s56_70, s56_71, s56_73, s56_74, s56_77, s56_79, s56_80, s56_83, s56_86, s56_88, s56_89, s56_92, s56_94, s56_97, s56_98, s56_100, s56_101, s56_102, s56_105, s56_108, s56_109, s56_110, s56_113, s56_116, s56_118, s56_121, s56_123, s56_124, s56_127, s56_130, s56_131, s56_134, s56_135, is_O, opt_s, opt_n, cat_0, cat_i, cat_r, true_and, Nat.zero_le, Nat.reduceAdd, Nat.reduceLeDiff, al_I, as_I, rl_R, ln_I, ln_R, nI_add, pk_mul, g_set, set_set, not_false_eq_true, gf0_0, gf0_1, gf0_2, gf1_0, gf1_1, gf1_2, gf1_3, gf1_4, gf1_5, gf1_6, gf1_7, gf1_8, gf1_9, gf1_10, gf1_11, gf2_0, gf2_1, gf2_2, gf3_0, gf3_1, gf4_0, gf4_1, gf4_2, gf5_0, gf5_1, gf5_2, gf5_3, gf6_0, gf6_1, gf6_2, gf6_3, gf6_4, gf6_5, gf6_6, gf7_0, gf7_1, gf7_2, gf7_3, gf7_4, gf7_5, pf0_0, pf0_1, pf0_2, pf1_0, pf1_1, pf1_2, pf1_3, pf1_4, pf1_5, pf1_6, pf1_7, pf1_8, pf1_9, pf1_10, pf1_11, pf2_0, pf2_1, pf2_2, pf3_0, pf3_1, pf4_0, pf4_1, pf4_2, pf5_0, pf5_1, pf5_2, pf5_3, pf6_0, pf6_1, pf6_2, pf6_3, pf6_4, pf6_5, pf6_6, pf7_0, pf7_1, pf7_2, pf7_3, pf7_4, pf7_5, gt, gw, sw, e1, e2, e3, ez, xi_n (show stk.length < P by omega) (show P < 2147483648 by omega), xi_n (show n < P by omega) (show P < 2147483648 by omega)]
    rw [if_neg (fun z => absurd ((nI_l2 (by omega) (by omega)).mp z) (by omega))]
    by_cases k1 : c % bs o = 1
    · rw [if_pos k1] at hX
      rw [if_neg (fun z => z (by rw [k1]))]
      refine ih (c / bs o) (n :: stk) ws op _ _ (by omega) hcd (by simp only [List.length_cons]; omega) (fun q hq => ?_) (fun j hj => ?_) (by omega) hX
      · rcases List.mem_cons.mp hq with rfl | hq
        · omega
        · exact hlt q hq
      · rw [List.reverse_cons]
        by_cases hj2 : j = stk.length
        · subst hj2
          rw [pk_us, List.getD_eq_getElem?_getD, List.getElem?_append_right (by simp)]
          simp
        · simp only [List.length_cons] at hj
          rw [pk_un hj2, hs j (by omega), List.getD_eq_getElem?_getD, List.getD_eq_getElem?_getD, List.getElem?_append_left (by simp; omega)]
    · rw [if_neg k1] at hX
      rw [if_pos (fun z => absurd ((nI_e (by omega) (by omega)).mp z) (by omega))]
      by_cases k0 : c % bs o = 0
      · rw [if_pos k0] at hX
        rw [if_neg (fun z => z (by rw [k0]))]
        cases stk with
        | nil =>
          rw [if_pos (show nI ([] : List Nat).length ≤ nI 0 by decide), if_pos (fun z => absurd ((nI_e (by omega) (by omega)).mp z) (by omega))]
          exact ⟨Or.inl trivial, hX fw (wrO ws f0) (fun z => by cases z)⟩
        | cons q s =>
          simp only [List.length_cons] at hlen hs ⊢
          have hq : fw s.length = nI q := by
            rw [hs s.length (by omega), List.reverse_cons, List.getD_eq_getElem?_getD, List.getElem?_append_right (by simp)]
            simp
          have hqv := hlt q List.mem_cons_self
          rw [if_neg (fun z => absurd ((nI_l1 (by omega) (by omega)).mp z) (by omega))]
          simp only [pk_sub (show 1 ≤ s.length + 1 by omega), Nat.add_sub_cancel, is_O, opt_s, opt_n, cat_0, cat_i, cat_r, true_and, Nat.zero_le, Nat.reduceAdd, Nat.reduceLeDiff, al_I, as_I, rl_R, ln_I, ln_R, nI_add, pk_mul, g_set, set_set, not_false_eq_true, gf0_0, gf0_1, gf0_2, gf1_0, gf1_1, gf1_2, gf1_3, gf1_4, gf1_5, gf1_6, gf1_7, gf1_8, gf1_9, gf1_10, gf1_11, gf2_0, gf2_1, gf2_2, gf3_0, gf3_1, gf4_0, gf4_1, gf4_2, gf5_0, gf5_1, gf5_2, gf5_3, gf6_0, gf6_1, gf6_2, gf6_3, gf6_4, gf6_5, gf6_6, gf7_0, gf7_1, gf7_2, gf7_3, gf7_4, gf7_5, pf0_0, pf0_1, pf0_2, pf1_0, pf1_1, pf1_2, pf1_3, pf1_4, pf1_5, pf1_6, pf1_7, pf1_8, pf1_9, pf1_10, pf1_11, pf2_0, pf2_1, pf2_2, pf3_0, pf3_1, pf4_0, pf4_1, pf4_2, pf5_0, pf5_1, pf5_2, pf5_3, pf6_0, pf6_1, pf6_2, pf6_3, pf6_4, pf6_5, pf6_6, pf7_0, pf7_1, pf7_2, pf7_3, pf7_4, pf7_5, xi_n (show s.length < P by omega) (show P < 2147483648 by omega), hq]
          rw [m_join (show n < P by omega) hqv (by omega) g_set]
          simp only [s56_0, s56_1, s56_2, s56_3, s56_5, s56_6, s56_8, s56_9, s56_12, s56_13, s56_14, s56_18, s56_21, s56_22, s56_23, s56_26, s56_27, s56_29, s56_30, s56_31, s56_34, s56_35, s56_36, s56_38, s56_39, s56_42, s56_43, s56_46, s56_48, s56_50, s56_51, s56_54, s56_57, s56_59, s56_62, s56_64, s56_67, s56_70, s56_71, s56_73, s56_74, s56_77, s56_79, s56_80, s56_83, s56_86, s56_88, s56_89, s56_92, s56_94, s56_97, s56_98, s56_100, s56_101, s56_102, s56_105, s56_108, s56_109, s56_110, s56_113, s56_116, s56_118, s56_121, s56_123, s56_124, s56_127, s56_130, s56_131, s56_134, s56_135, is_O, opt_s, opt_n, cat_0, cat_i, cat_r, true_and, Nat.zero_le, Nat.reduceAdd, Nat.reduceLeDiff, al_I, as_I, rl_R, ln_I, ln_R, nI_add, pk_mul, g_set, set_set, not_false_eq_true, gf0_0, gf0_1, gf0_2, gf1_0, gf1_1, gf1_2, gf1_3, gf1_4, gf1_5, gf1_6, gf1_7, gf1_8, gf1_9, gf1_10, gf1_11, gf2_0, gf2_1, gf2_2, gf3_0, gf3_1, gf4_0, gf4_1, gf4_2, gf5_0, gf5_1, gf5_2, gf5_3, gf6_0, gf6_1, gf6_2, gf6_3, gf6_4, gf6_5, gf6_6, gf7_0, gf7_1, gf7_2, gf7_3, gf7_4, gf7_5, pf0_0, pf0_1, pf0_2, pf1_0, pf1_1, pf1_2, pf1_3, pf1_4, pf1_5, pf1_6, pf1_7, pf1_8, pf1_9, pf1_10, pf1_11, pf2_0, pf2_1, pf2_2, pf3_0, pf3_1, pf4_0, pf4_1, pf4_2, pf5_0, pf5_1, pf5_2, pf5_3, pf6_0, pf6_1, pf6_2, pf6_3, pf6_4, pf6_5, pf6_6, pf7_0, pf7_1, pf7_2, pf7_3, pf7_4, pf7_5]
          have := ih (c / bs o) s ((q, n) :: (n, q) :: ws) op (.int (nI (c % bs o))) fw (by omega) hcd (by omega) (fun k hk => hlt k (List.mem_cons_of_mem _ hk)) (fun j hj => ?_) (by omega) hX
          · rw [wrO_cons, wrO_cons, oV_n (by omega), oV_n (by omega)] at this
            exact this
          · rw [hs j (by omega), List.reverse_cons, List.getD_eq_getElem?_getD, List.getD_eq_getElem?_getD, List.getElem?_append_left (by simp; omega)]
      · rw [if_neg k0] at hX
        have k2 : c % bs o = 2 := by omega
        rw [if_pos (fun z => absurd ((nI_e (by omega) (by omega)).mp z) (by omega)), if_neg (fun z => z (by rw [k2]))]
        cases stk with
        | nil =>
          rw [if_neg (fun z => z rfl)]
          have := ih (c / bs o) [] ((n, 99) :: ws) (op + 1) (.int (nI (c % bs o))) fw (by omega) hcd (by simp; omega) (fun q hq => by cases hq) (fun j hj => by cases hj) (by omega) hX
          rw [wrO_cons] at this
          exact this
        | cons q s =>
          simp only [List.length_cons] at hlen ⊢
          rw [if_pos (fun z => absurd ((nI_e (by omega) (by omega)).mp z) (by omega))]
          exact ⟨Or.inl trivial, hX fw (wrO ws f0) (fun z => by cases z)⟩
end C2
