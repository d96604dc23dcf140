/-! THE CLASS: rows on each other; numbers -/
def oV (q : Nat) : Int32 := if q = 99 then -1 else nI q
def iLL (F G : Nat → Nat) (s : Nat) : Nat → Nat → Bool
  | 0, _ => false
  | m + 1, pl => if F pl = 99 ∨ F pl < s then false else if G (F pl) = 99 ∨ G (F pl) < s then false else if G (F pl) = s then true else iLL F G s m (G (F pl))
def glc (F G : Nat → Nat) (n : Nat) : Nat → Nat → Nat → Nat
  | 0, _, acc => acc
  | m + 1, s, acc => glc F G n m (s + 1) (acc + (if iLL F G s n s = true then 1 else 0))
def ldA (F G : Nat → Nat) : Nat → Nat → Bool
  | 0, _ => false
  | m + 1, pl => if G pl = 99 then true else if F (G pl) = 99 then false else ldA F G m (F (G pl))
def fnm (F G : Nat → Nat) (n : Nat) : Nat → Nat → Bool
  | 0, _ => true
  | m + 1, pl => if F pl = 99 ∧ ldA F G n pl = false then false else fnm F G n m (pl + 1)
def hF (v r i : Nat) : Nat → Nat := fun j => if tH v r i j = 5 then 99 else tH v r i j
theorem tGl_k : all5 (fun v => allN (tC v) (fun d => decide (glc (tR v d) (tR v 0) (2 * v) (2 * v) 0 0 = tCl v d))) = true := by decide +kernel
theorem tGl {v d : Nat} (h1 : 1 ≤ v) (h2 : v ≤ 5) (hd : d < tC v) : glc (tR v d) (tR v 0) (2 * v) (2 * v) 0 0 = tCl v d := of_decide_eq_true (allN_of (all5_of tGl_k h1 h2) hd)
theorem tFn_k : all5 (fun v => allN 6 (fun r => !(decide (okR v r)) || allN (tHn v r) (fun i => allN (tHn v r) (fun j => if fnm (hF v r i) (hF v r j) v v 0 = true then decide (tF v r i j ≠ 9 ∧ tF v r i j ≤ 5 ∧ glc (hF v r i) (hF v r j) v v 0 0 = tF v r i j) else decide (tF v r i j = 9))))) = true := by decide +kernel
theorem tFn {v r i j : Nat} (h1 : 1 ≤ v) (h2 : v ≤ 5) (hr : okR v r) (hi : i < tHn v r) (hj : j < tHn v r) : if fnm (hF v r i) (hF v r j) v v 0 = true then tF v r i j ≠ 9 ∧ tF v r i j ≤ 5 ∧ glc (hF v r i) (hF v r j) v v 0 0 = tF v r i j else tF v r i j = 9 := by
  have k := allN_of (all5_of tFn_k h1 h2) (show r < 6 by have := hr.1; omega)
  rw [Bool.or_eq_true] at k
  rcases k with k | k
  · simp [hr] at k
  · have k := allN_of (allN_of k hi) hj
    split at k
    · rename_i hc
      rw [if_pos hc]
      exact of_decide_eq_true k
    · rename_i hc
      rw [if_neg hc]
      exact of_decide_eq_true k
theorem glc_le {F G : Nat → Nat} {n : Nat} : ∀ (m s acc : Nat), glc F G n m s acc ≤ acc + m := by
  intro m
  induction m with
  | zero => intro s acc; exact Nat.le_refl _
  | succ m ih =>
    intro s acc
    rw [glc]
    have := ih (s + 1) (acc + (if iLL F G s n s = true then 1 else 0))
    have hle : (if iLL F G s n s = true then 1 else 0) ≤ 1 := by split <;> omega
    omega
theorem oV_9 {q : Nat} (h : q < 99 ∨ q = 99) : (oV q = -1) ↔ q = 99 := by
  by_cases h9 : q = 99
  · subst h9
    exact ⟨fun _ => rfl, fun _ => rfl⟩
  · unfold oV
    rw [if_neg h9]
    refine ⟨fun z => ?_, fun z => absurd z h9⟩
    have := congrArg Int32.toInt z
    rw [nI_toInt (by have e : (2:Nat)^31 = 2147483648 := rfl; omega), show (-1 : Int32).toInt = -1 by decide] at this
    omega
theorem oV_n {q : Nat} (h : ¬ q = 99) : oV q = nI q := if_neg h
section C1
variable {h : ex_Hp} {X : Option Value → ex_Hp → Prop} {a b n p lo nb lp : Nat} {f g fp : Nat → Int32} {F G : Nat → Nat}
theorem m_inW {x : Int32} {a b : Nat} : ex_W 85 0 [.int x, .int (nI a), .int (nI b)] [] h X ↔ X (some (.int (if isW a b x then nI 1 else nI 0))) h := m_within
theorem l_least (hn : n ≤ 10) (ha : ex_g h a = some (cI n f)) (hb : ex_g h b = some (cI n g)) (hf : ∀ j, j < n → f j = oV (F j)) (hg : ∀ j, j < n → g j = oV (G j)) (hF : ∀ j, j < n → F j = 99 ∨ F j < n) (hG : ∀ j, j < n → G j = 99 ∨ G j < n) {s : Nat} (hs : s < n) : ∀ (m t pl : Nat) (l5 : Value), m + t = n → pl < n → X (some (.int (bI (iLL F G s m pl)))) h → ex_W 23 5 [.ref a, .ref b, .int (nI s), .int (nI pl), .int (nI t), l5] [] h X := by
  intro m
  induction m with
  | zero =>
    intro t pl l5 hm hp hX
    rw [s23_5]
    simp only [s23_0, s23_1, s23_2, s23_3, s23_7, s23_8, s23_9, s23_12, s23_13, s23_14, s23_15, s23_17, s23_19, s23_20, s23_23, s23_25, s23_26, s23_29, s23_30, s23_31, s23_32, s23_34, s23_35, s23_36, s23_37, s23_38, s23_41, s23_42, s23_43, s23_46, s23_47, s23_48, s23_49, s23_50, s23_53, s23_54, s23_55, s23_58, s23_61, s23_62, is_O, opt_s, opt_n, cat_0, cat_i, cat_r, true_and, Nat.zero_le, Nat.reduceAdd, Nat.reduceLeDiff, al_I, as_I, rl_R, ln_I, ln_R, nI_add, pk_mul, g_set, set_set, not_false_eq_true, gf0_0, gf0_1, gf0_2, gf1_0, gf1_1, gf1_2, gf1_3, gf1_4, gf1_5, gf1_6, gf1_7, gf1_8, gf1_9, gf1_10, gf1_11, gf2_0, gf2_1, gf2_2, gf3_0, gf3_1, gf4_0, gf4_1, gf4_2, gf5_0, gf5_1, gf5_2, gf5_3, gf6_0, gf6_1, gf6_2, gf6_3, gf6_4, gf6_5, gf6_6, gf7_0, gf7_1, gf7_2, gf7_3, gf7_4, gf7_5, pf0_0, pf0_1, pf0_2, pf1_0, pf1_1, pf1_2, pf1_3, pf1_4, pf1_5, pf1_6, pf1_7, pf1_8, pf1_9, pf1_10, pf1_11, pf2_0, pf2_1, pf2_2, pf3_0, pf3_1, pf4_0, pf4_1, pf4_2, pf5_0, pf5_1, pf5_2, pf5_3, pf6_0, pf6_1, pf6_2, pf6_3, pf6_4, pf6_5, pf6_6, pf7_0, pf7_1, pf7_2, pf7_3, pf7_4, pf7_5, ha]
    rw [if_pos ((nI_l1 (by omega) (by omega)).mpr (by omega))]
    exact ⟨Or.inl trivial, hX⟩
  | succ m ih =>
    intro t pl l5 hm hp hX
    rw [iLL] at hX
    have q1 := hF pl hp
    rw [s23_5]
    simp only [s23_0, s23_1, s23_2, s23_3, s23_7, s23_8, s23_9, s23_12, s23_13, s23_14, s23_15, s23_17, s23_19, s23_20, s23_23, s23_25, s23_26, s23_29, s23_30, s23_31, s23_32, s23_34, s23_35, s23_36, s23_37, s23_38, s23_41, s23_42, s23_43, s23_46, s23_47, s23_48, s23_49, s23_50, s23_53, s23_54, s23_55, s23_58, s23_61, s23_62, is_O, opt_s, opt_n, cat_0, cat_i, cat_r, true_and, Nat.zero_le, Nat.reduceAdd, Nat.reduceLeDiff, al_I, as_I, rl_R, ln_I, ln_R, nI_add, pk_mul, g_set, set_set, not_false_eq_true, gf0_0, gf0_1, gf0_2, gf1_0, gf1_1, gf1_2, gf1_3, gf1_4, gf1_5, gf1_6, gf1_7, gf1_8, gf1_9, gf1_10, gf1_11, gf2_0, gf2_1, gf2_2, gf3_0, gf3_1, gf4_0, gf4_1, gf4_2, gf5_0, gf5_1, gf5_2, gf5_3, gf6_0, gf6_1, gf6_2, gf6_3, gf6_4, gf6_5, gf6_6, gf7_0, gf7_1, gf7_2, gf7_3, gf7_4, gf7_5, pf0_0, pf0_1, pf0_2, pf1_0, pf1_1, pf1_2, pf1_3, pf1_4, pf1_5, pf1_6, pf1_7, pf1_8, pf1_9, pf1_10, pf1_11, pf2_0, pf2_1, pf2_2, pf3_0, pf3_1, pf4_0, pf4_1, pf4_2, pf5_0, pf5_1, pf5_2, pf5_3, pf6_0, pf6_1, pf6_2, pf6_3, pf6_4, pf6_5, pf6_6, pf7_0, pf7_1, pf7_2, pf7_3, pf7_4, pf7_5, ha, hb, xi_n hp (show n < 2147483648 by omega), hf pl hp]
    rw [if_neg (fun z => absurd ((nI_l1 (by omega) (by omega)).mp z) (by omega))]
    by_cases h9 : F pl = 99
    · rw [if_pos (Or.inl h9)] at hX
      rw [if_pos ((oV_9 (by omega)).mpr h9)]
      exact ⟨Or.inl trivial, hX⟩
    · rw [if_neg (fun z => h9 ((oV_9 (by omega)).mp z)), oV_n h9]
      by_cases hl : F pl < s
      · rw [if_pos (Or.inr hl)] at hX
        rw [if_neg (fun z => absurd ((nI_l1 (by omega) (by omega)).mp z) (by omega))]
        exact ⟨Or.inl trivial, hX⟩
      · rw [if_neg (by omega)] at hX
        have hF2 : F pl < n := by omega
        have q2 := hG _ hF2
        rw [if_pos ((nI_l1 (by omega) (by omega)).mpr (by omega)), xi_n hF2 (show n < 2147483648 by omega), hg _ hF2]
        by_cases h8 : G (F pl) = 99
        · rw [if_pos (Or.inl h8)] at hX
          rw [if_pos ((oV_9 (by omega)).mpr h8)]
          exact ⟨Or.inl trivial, hX⟩
        · rw [if_neg (fun z => h8 ((oV_9 (by omega)).mp z)), oV_n h8]
          by_cases hl2 : G (F pl) < s
          · rw [if_pos (Or.inr hl2)] at hX
            rw [if_neg (fun z => absurd ((nI_l1 (by omega) (by omega)).mp z) (by omega))]
            exact ⟨Or.inl trivial, hX⟩
          · rw [if_neg (by omega)] at hX
            rw [if_pos ((nI_l1 (by omega) (by omega)).mpr (by omega))]
            by_cases he : G (F pl) = s
            · rw [if_pos he] at hX
              rw [if_neg (fun z => z (by rw [he]))]
              exact ⟨Or.inr trivial, hX⟩
            · rw [if_neg he] at hX
              rw [if_pos (fun z => absurd ((nI_e (by omega) (by omega)).mp z) (by omega))]
              exact ih (t + 1) _ _ (by omega) (by omega) hX
theorem m_glc (hn : n ≤ 10) (ha : ex_g h a = some (cI n f)) (hb : ex_g h b = some (cI n g)) (hf : ∀ j, j < n → f j = oV (F j)) (hg : ∀ j, j < n → g j = oV (G j)) (hF : ∀ j, j < n → F j = 99 ∨ F j < n) (hG : ∀ j, j < n → G j = 99 ∨ G j < n) : ∀ (m s acc : Nat), m + s = n → X (some (.int (nI (glc F G n m s acc)))) h → ex_W 22 4 [.ref a, .ref b, .int (nI acc), .int (nI s)] [] h X := by
  intro m
  induction m with
  | zero =>
    intro s acc hm hX
    rw [s22_4]
    simp only [s22_0, s22_1, s22_2, s22_3, s22_5, s22_6, s22_7, s22_10, s22_11, s22_12, s22_13, s22_16, s22_19, s22_22, s22_25, s22_28, s22_29, is_O, opt_s, opt_n, cat_0, cat_i, cat_r, true_and, Nat.zero_le, Nat.reduceAdd, Nat.reduceLeDiff, al_I, as_I, rl_R, ln_I, ln_R, nI_add, pk_mul, g_set, set_set, not_false_eq_true, gf0_0, gf0_1, gf0_2, gf1_0, gf1_1, gf1_2, gf1_3, gf1_4, gf1_5, gf1_6, gf1_7, gf1_8, gf1_9, gf1_10, gf1_11, gf2_0, gf2_1, gf2_2, gf3_0, gf3_1, gf4_0, gf4_1, gf4_2, gf5_0, gf5_1, gf5_2, gf5_3, gf6_0, gf6_1, gf6_2, gf6_3, gf6_4, gf6_5, gf6_6, gf7_0, gf7_1, gf7_2, gf7_3, gf7_4, gf7_5, pf0_0, pf0_1, pf0_2, pf1_0, pf1_1, pf1_2, pf1_3, pf1_4, pf1_5, pf1_6, pf1_7, pf1_8, pf1_9, pf1_10, pf1_11, pf2_0, pf2_1, pf2_2, pf3_0, pf3_1, pf4_0, pf4_1, pf4_2, pf5_0, pf5_1, pf5_2, pf5_3, pf6_0, pf6_1, pf6_2, pf6_3, pf6_4, pf6_5, pf6_6, pf7_0, pf7_1, pf7_2, pf7_3, pf7_4, pf7_5, ha]
    rw [if_pos ((nI_l1 (by omega) (by omega)).mpr (by omega))]
    exact hX
  | succ m ih =>
    intro s acc hm hX
    rw [glc] at hX
    rw [s22_4]
    simp only [s22_0, s22_1, s22_2, s22_3, s22_5, s22_6, s22_7, s22_10, s22_11, s22_12, s22_13, s22_16, s22_19, s22_25, s22_28, s22_29, is_O, opt_s, opt_n, cat_0, cat_i, cat_r, true_and, Nat.zero_le, Nat.reduceAdd, Nat.reduceLeDiff, al_I, as_I, rl_R, ln_I, ln_R, nI_add, pk_mul, g_set, set_set, not_false_eq_true, gf0_0, gf0_1, gf0_2, gf1_0, gf1_1, gf1_2, gf1_3, gf1_4, gf1_5, gf1_6, gf1_7, gf1_8, gf1_9, gf1_10, gf1_11, gf2_0, gf2_1, gf2_2, gf3_0, gf3_1, gf4_0, gf4_1, gf4_2, gf5_0, gf5_1, gf5_2, gf5_3, gf6_0, gf6_1, gf6_2, gf6_3, gf6_4, gf6_5, gf6_6, gf7_0, gf7_1, gf7_2, gf7_3, gf7_4, gf7_5, pf0_0, pf0_1, pf0_2, pf1_0, pf1_1, pf1_2, pf1_3, pf1_4, pf1_5, pf1_6, pf1_7, pf1_8, pf1_9, pf1_10, pf1_11, pf2_0, pf2_1, pf2_2, pf3_0, pf3_1, pf4_0, pf4_1, pf4_2, pf5_0, pf5_1, pf5_2, pf5_3, pf6_0, pf6_1, pf6_2, pf6_3, pf6_4, pf6_5, pf6_6, pf7_0, pf7_1, pf7_2, pf7_3, pf7_4, pf7_5, ha, s23_0, s23_1, s23_2, s23_3]
    rw [if_neg (fun z => absurd ((nI_l1 (by omega) (by omega)).mp z) (by omega))]
    refine l_least hn ha hb hf hg hF hG (show s < n by omega) n 0 s _ (by omega) (by omega) ?_
    simp only [s22_0, s22_1, s22_2, s22_3, s22_5, s22_6, s22_7, s22_10, s22_11, s22_12, s22_13, s22_16, s22_19, s22_22, s22_25, s22_28, s22_29, is_O, opt_s, opt_n, cat_0, cat_i, cat_r, true_and, Nat.zero_le, Nat.reduceAdd, Nat.reduceLeDiff, al_I, as_I, rl_R, ln_I, ln_R, nI_add, pk_mul, g_set, set_set, not_false_eq_true, gf0_0, gf0_1, gf0_2, gf1_0, gf1_1, gf1_2, gf1_3, gf1_4, gf1_5, gf1_6, gf1_7, gf1_8, gf1_9, gf1_10, gf1_11, gf2_0, gf2_1, gf2_2, gf3_0, gf3_1, gf4_0, gf4_1, gf4_2, gf5_0, gf5_1, gf5_2, gf5_3, gf6_0, gf6_1, gf6_2, gf6_3, gf6_4, gf6_5, gf6_6, gf7_0, gf7_1, gf7_2, gf7_3, gf7_4, gf7_5, pf0_0, pf0_1, pf0_2, pf1_0, pf1_1, pf1_2, pf1_3, pf1_4, pf1_5, pf1_6, pf1_7, pf1_8, pf1_9, pf1_10, pf1_11, pf2_0, pf2_1, pf2_2, pf3_0, pf3_1, pf4_0, pf4_1, pf4_2, pf5_0, pf5_1, pf5_2, pf5_3, pf6_0, pf6_1, pf6_2, pf6_3, pf6_4, pf6_5, pf6_6, pf7_0, pf7_1, pf7_2, pf7_3, pf7_4, pf7_5]
    cases hi : iLL F G s n s with
    | true =>
      rw [hi, if_pos rfl] at hX
      rw [if_neg (show ¬ bI true = nI 0 by decide)]
      exact ih (s + 1) _ (by omega) hX
    | false =>
      rw [hi, if_neg (by decide)] at hX
      rw [if_pos (show bI false = nI 0 by decide)]
      exact ih (s + 1) _ (by omega) hX
theorem m_closed (hn : n ≤ 10) (ha : ex_g h a = some (cI n f)) (hb : ex_g h b = some (cI n g)) (hf : ∀ j, j < n → f j = oV (F j)) (hg : ∀ j, j < n → g j = oV (G j)) (hF : ∀ j, j < n → F j = 99 ∨ F j < n) (hG : ∀ j, j < n → G j = 99 ∨ G j < n) (hX : X (some (.int (nI (glc F G n n 0 0)))) h) : ex_W 22 0 [.ref a, .ref b, oU, oU] [] h X := by
  rw [s22_0, s22_1, s22_2, s22_3]
  exact m_glc hn ha hb hf hg hF hG n 0 0 (by omega) hX
theorem l_leads (hn : n ≤ 10) (ha : ex_g h a = some (cI n f)) (hb : ex_g h b = some (cI n g)) (hf : ∀ j, j < n → f j = oV (F j)) (hg : ∀ j, j < n → g j = oV (G j)) (hF : ∀ j, j < n → F j = 99 ∨ F j < n) (hG : ∀ j, j < n → G j = 99 ∨ G j < n) {l2 : Value} : ∀ (m t pl : Nat) (l5 : Value), m + t = n → pl < n → X (some (.int (bI (ldA F G m pl)))) h → ex_W 24 5 [.ref a, .ref b, l2, .int (nI pl), .int (nI t), l5] [] h X := by
  intro m
  induction m with
  | zero =>
    intro t pl l5 hm hp hX
    rw [s24_5]
    simp only [s24_0, s24_1, s24_2, s24_3, s24_7, s24_8, s24_9, s24_12, s24_13, s24_14, s24_15, s24_17, s24_19, s24_20, s24_23, s24_24, s24_25, s24_26, s24_28, s24_29, s24_30, s24_31, s24_32, s24_35, s24_36, s24_37, s24_40, s24_43, s24_44, is_O, opt_s, opt_n, cat_0, cat_i, cat_r, true_and, Nat.zero_le, Nat.reduceAdd, Nat.reduceLeDiff, al_I, as_I, rl_R, ln_I, ln_R, nI_add, pk_mul, g_set, set_set, not_false_eq_true, gf0_0, gf0_1, gf0_2, gf1_0, gf1_1, gf1_2, gf1_3, gf1_4, gf1_5, gf1_6, gf1_7, gf1_8, gf1_9, gf1_10, gf1_11, gf2_0, gf2_1, gf2_2, gf3_0, gf3_1, gf4_0, gf4_1, gf4_2, gf5_0, gf5_1, gf5_2, gf5_3, gf6_0, gf6_1, gf6_2, gf6_3, gf6_4, gf6_5, gf6_6, gf7_0, gf7_1, gf7_2, gf7_3, gf7_4, gf7_5, pf0_0, pf0_1, pf0_2, pf1_0, pf1_1, pf1_2, pf1_3, pf1_4, pf1_5, pf1_6, pf1_7, pf1_8, pf1_9, pf1_10, pf1_11, pf2_0, pf2_1, pf2_2, pf3_0, pf3_1, pf4_0, pf4_1, pf4_2, pf5_0, pf5_1, pf5_2, pf5_3, pf6_0, pf6_1, pf6_2, pf6_3, pf6_4, pf6_5, pf6_6, pf7_0, pf7_1, pf7_2, pf7_3, pf7_4, pf7_5, ha]
    rw [if_pos ((nI_l1 (by omega) (by omega)).mpr (by omega))]
    exact ⟨Or.inl trivial, hX⟩
  | succ m ih =>
    intro t pl l5 hm hp hX
    rw [ldA] at hX
    have q1 := hG pl hp
    rw [s24_5]
    simp only [s24_0, s24_1, s24_2, s24_3, s24_7, s24_8, s24_9, s24_12, s24_13, s24_14, s24_15, s24_17, s24_19, s24_20, s24_23, s24_24, s24_25, s24_26, s24_28, s24_29, s24_30, s24_31, s24_32, s24_35, s24_36, s24_37, s24_40, s24_43, s24_44, is_O, opt_s, opt_n, cat_0, cat_i, cat_r, true_and, Nat.zero_le, Nat.reduceAdd, Nat.reduceLeDiff, al_I, as_I, rl_R, ln_I, ln_R, nI_add, pk_mul, g_set, set_set, not_false_eq_true, gf0_0, gf0_1, gf0_2, gf1_0, gf1_1, gf1_2, gf1_3, gf1_4, gf1_5, gf1_6, gf1_7, gf1_8, gf1_9, gf1_10, gf1_11, gf2_0, gf2_1, gf2_2, gf3_0, gf3_1, gf4_0, gf4_1, gf4_2, gf5_0, gf5_1, gf5_2, gf5_3, gf6_0, gf6_1, gf6_2, gf6_3, gf6_4, gf6_5, gf6_6, gf7_0, gf7_1, gf7_2, gf7_3, gf7_4, gf7_5, pf0_0, pf0_1, pf0_2, pf1_0, pf1_1, pf1_2, pf1_3, pf1_4, pf1_5, pf1_6, pf1_7, pf1_8, pf1_9, pf1_10, pf1_11, pf2_0, pf2_1, pf2_2, pf3_0, pf3_1, pf4_0, pf4_1, pf4_2, pf5_0, pf5_1, pf5_2, pf5_3, pf6_0, pf6_1, pf6_2, pf6_3, pf6_4, pf6_5, pf6_6, pf7_0, pf7_1, pf7_2, pf7_3, pf7_4, pf7_5, ha, hb, xi_n hp (show n < 2147483648 by omega), hg pl hp]
    rw [if_neg (fun z => absurd ((nI_l1 (by omega) (by omega)).mp z) (by omega))]
    by_cases h9 : G pl = 99
    · rw [if_pos h9] at hX
      rw [if_neg (fun z => z ((oV_9 (by omega)).mpr h9))]
      exact ⟨Or.inr trivial, hX⟩
    · rw [if_neg h9] at hX
      have hG2 : G pl < n := by omega
      have q2 := hF _ hG2
      rw [if_pos (fun z => h9 ((oV_9 (by omega)).mp z)), oV_n h9, xi_n hG2 (show n < 2147483648 by omega), hf _ hG2]
      by_cases h8 : F (G pl) = 99
      · rw [if_pos h8] at hX
        rw [if_neg (fun z => z ((oV_9 (by omega)).mpr h8))]
        exact ⟨Or.inl trivial, hX⟩
      · rw [if_neg h8] at hX
        rw [if_pos (fun z => h8 ((oV_9 (by omega)).mp z)), oV_n h8]
        exact ih (t + 1) _ _ (by omega) (by omega) hX
theorem m_loopPower {k : Nat} (hk : k ≤ 5) (hnb : ex_g h nb = some (oNum (nI p) (nI lo) lp)) (hlp : ex_g h lp = some (cI 6 fp)) (hfp : ∀ j, j < 6 → fp j = nI (lo ^ j % p)) : ex_W 33 0 [.ref nb, .int (nI k)] [] h X ↔ X (some (.int (nI (lo ^ k % p)))) h := by
  have hw : isW 0 5 (nI k) := isW_n (by omega) hk (by decide)
  simp only [s33_0, s33_1, s33_2, s33_3, s33_6, s33_9, s33_10, s33_13, s33_14, s33_15, s33_18, s33_19, is_O, opt_s, opt_n, cat_0, cat_i, cat_r, true_and, Nat.zero_le, Nat.reduceAdd, Nat.reduceLeDiff, al_I, as_I, rl_R, ln_I, ln_R, nI_add, pk_mul, g_set, set_set, not_false_eq_true, gf0_0, gf0_1, gf0_2, gf1_0, gf1_1, gf1_2, gf1_3, gf1_4, gf1_5, gf1_6, gf1_7, gf1_8, gf1_9, gf1_10, gf1_11, gf2_0, gf2_1, gf2_2, gf3_0, gf3_1, gf4_0, gf4_1, gf4_2, gf5_0, gf5_1, gf5_2, gf5_3, gf6_0, gf6_1, gf6_2, gf6_3, gf6_4, gf6_5, gf6_6, gf7_0, gf7_1, gf7_2, gf7_3, gf7_4, gf7_5, pf0_0, pf0_1, pf0_2, pf1_0, pf1_1, pf1_2, pf1_3, pf1_4, pf1_5, pf1_6, pf1_7, pf1_8, pf1_9, pf1_10, pf1_11, pf2_0, pf2_1, pf2_2, pf3_0, pf3_1, pf4_0, pf4_1, pf4_2, pf5_0, pf5_1, pf5_2, pf5_3, pf6_0, pf6_1, pf6_2, pf6_3, pf6_4, pf6_5, pf6_6, pf7_0, pf7_1, pf7_2, pf7_3, pf7_4, pf7_5, m_inW, if_pos hw, i10, i10n, not_true_eq_false, if_false, if_true, hnb, hlp, xi_n (show k < 6 by omega) (show 6 < 2147483648 by decide), hfp k (by omega)]
theorem l_fnm (hn : n ≤ 5) (ha : ex_g h a = some (cI n f)) (hb : ex_g h b = some (cI n g)) (hf : ∀ j, j < n → f j = oV (F j)) (hg : ∀ j, j < n → g j = oV (G j)) (hF : ∀ j, j < n → F j = 99 ∨ F j < n) (hG : ∀ j, j < n → G j = 99 ∨ G j < n) (hnb : ex_g h nb = some (oNum (nI p) (nI lo) lp)) (hlp : ex_g h lp = some (cI 6 fp)) (hfp : ∀ j, j < 6 → fp j = nI (lo ^ j % p)) : ∀ (m s : Nat), m + s = n → X (some (.int (if fnm F G n m s = true then nI (lo ^ glc F G n n 0 0 % p) else nI 0))) h → ex_W 25 2 [.ref nb, .ref a, .ref b, .int (nI s)] [] h X := by
  intro m
  induction m with
  | zero =>
    intro s hm hX
    rw [fnm, if_pos rfl] at hX
    have hle := glc_le (F := F) (G := G) (n := n) n 0 0
    rw [s25_2]
    simp only [s25_0, s25_1, s25_3, s25_4, s25_5, s25_8, s25_9, s25_10, s25_11, s25_12, s25_15, s25_16, s25_17, s25_18, s25_21, s25_24, s25_25, s25_26, s25_29, s25_32, s25_33, s25_34, s25_35, s25_38, s25_41, is_O, opt_s, opt_n, cat_0, cat_i, cat_r, true_and, Nat.zero_le, Nat.reduceAdd, Nat.reduceLeDiff, al_I, as_I, rl_R, ln_I, ln_R, nI_add, pk_mul, g_set, set_set, not_false_eq_true, gf0_0, gf0_1, gf0_2, gf1_0, gf1_1, gf1_2, gf1_3, gf1_4, gf1_5, gf1_6, gf1_7, gf1_8, gf1_9, gf1_10, gf1_11, gf2_0, gf2_1, gf2_2, gf3_0, gf3_1, gf4_0, gf4_1, gf4_2, gf5_0, gf5_1, gf5_2, gf5_3, gf6_0, gf6_1, gf6_2, gf6_3, gf6_4, gf6_5, gf6_6, gf7_0, gf7_1, gf7_2, gf7_3, gf7_4, gf7_5, pf0_0, pf0_1, pf0_2, pf1_0, pf1_1, pf1_2, pf1_3, pf1_4, pf1_5, pf1_6, pf1_7, pf1_8, pf1_9, pf1_10, pf1_11, pf2_0, pf2_1, pf2_2, pf3_0, pf3_1, pf4_0, pf4_1, pf4_2, pf5_0, pf5_1, pf5_2, pf5_3, pf6_0, pf6_1, pf6_2, pf6_3, pf6_4, pf6_5, pf6_6, pf7_0, pf7_1, pf7_2, pf7_3, pf7_4, pf7_5, ha]
    rw [if_pos ((nI_l1 (by omega) (by omega)).mpr (by omega))]
    refine m_closed (by omega) ha hb hf hg hF hG ?_
    simp only [s25_0, s25_1, s25_3, s25_4, s25_5, s25_8, s25_9, s25_10, s25_11, s25_12, s25_15, s25_16, s25_17, s25_18, s25_21, s25_24, s25_25, s25_26, s25_29, s25_32, s25_33, s25_34, s25_35, s25_38, s25_41, is_O, opt_s, opt_n, cat_0, cat_i, cat_r, true_and, Nat.zero_le, Nat.reduceAdd, Nat.reduceLeDiff, al_I, as_I, rl_R, ln_I, ln_R, nI_add, pk_mul, g_set, set_set, not_false_eq_true, gf0_0, gf0_1, gf0_2, gf1_0, gf1_1, gf1_2, gf1_3, gf1_4, gf1_5, gf1_6, gf1_7, gf1_8, gf1_9, gf1_10, gf1_11, gf2_0, gf2_1, gf2_2, gf3_0, gf3_1, gf4_0, gf4_1, gf4_2, gf5_0, gf5_1, gf5_2, gf5_3, gf6_0, gf6_1, gf6_2, gf6_3, gf6_4, gf6_5, gf6_6, gf7_0, gf7_1, gf7_2, gf7_3, gf7_4, gf7_5, pf0_0, pf0_1, pf0_2, pf1_0, pf1_1, pf1_2, pf1_3, pf1_4, pf1_5, pf1_6, pf1_7, pf1_8, pf1_9, pf1_10, pf1_11, pf2_0, pf2_1, pf2_2, pf3_0, pf3_1, pf4_0, pf4_1, pf4_2, pf5_0, pf5_1, pf5_2, pf5_3, pf6_0, pf6_1, pf6_2, pf6_3, pf6_4, pf6_5, pf6_6, pf7_0, pf7_1, pf7_2, pf7_3, pf7_4, pf7_5, hnb, m_loopPower (show glc F G n n 0 0 ≤ 5 by omega) hnb hlp hfp]
    exact hX
  | succ m ih =>
    intro s hm hX
    have hs : s < n := by omega
    have q1 := hF s hs
    rw [fnm] at hX
    rw [s25_2]
    simp only [s25_0, s25_1, s25_3, s25_4, s25_5, s25_8, s25_9, s25_10, s25_11, s25_12, s25_15, s25_16, s25_17, s25_18, s25_21, s25_24, s25_25, s25_26, s25_29, s25_33, s25_34, s25_35, s25_38, s25_41, is_O, opt_s, opt_n, cat_0, cat_i, cat_r, true_and, Nat.zero_le, Nat.reduceAdd, Nat.reduceLeDiff, al_I, as_I, rl_R, ln_I, ln_R, nI_add, pk_mul, g_set, set_set, not_false_eq_true, gf0_0, gf0_1, gf0_2, gf1_0, gf1_1, gf1_2, gf1_3, gf1_4, gf1_5, gf1_6, gf1_7, gf1_8, gf1_9, gf1_10, gf1_11, gf2_0, gf2_1, gf2_2, gf3_0, gf3_1, gf4_0, gf4_1, gf4_2, gf5_0, gf5_1, gf5_2, gf5_3, gf6_0, gf6_1, gf6_2, gf6_3, gf6_4, gf6_5, gf6_6, gf7_0, gf7_1, gf7_2, gf7_3, gf7_4, gf7_5, pf0_0, pf0_1, pf0_2, pf1_0, pf1_1, pf1_2, pf1_3, pf1_4, pf1_5, pf1_6, pf1_7, pf1_8, pf1_9, pf1_10, pf1_11, pf2_0, pf2_1, pf2_2, pf3_0, pf3_1, pf4_0, pf4_1, pf4_2, pf5_0, pf5_1, pf5_2, pf5_3, pf6_0, pf6_1, pf6_2, pf6_3, pf6_4, pf6_5, pf6_6, pf7_0, pf7_1, pf7_2, pf7_3, pf7_4, pf7_5, ha, xi_n hs (show n < 2147483648 by omega), hf s hs, s24_0, s24_1, s24_2, s24_3]
    rw [if_neg (fun z => absurd ((nI_l1 (by omega) (by omega)).mp z) (by omega))]
    by_cases h9 : F s = 99
    · rw [if_neg (fun z => z ((oV_9 (by omega)).mpr h9))]
      refine l_leads (by omega) ha hb hf hg hF hG n 0 s _ (by omega) hs ?_
      simp only [s25_0, s25_1, s25_3, s25_4, s25_5, s25_8, s25_9, s25_10, s25_11, s25_12, s25_15, s25_16, s25_17, s25_18, s25_21, s25_24, s25_25, s25_26, s25_29, s25_33, s25_34, s25_35, s25_38, s25_41, is_O, opt_s, opt_n, cat_0, cat_i, cat_r, true_and, Nat.zero_le, Nat.reduceAdd, Nat.reduceLeDiff, al_I, as_I, rl_R, ln_I, ln_R, nI_add, pk_mul, g_set, set_set, not_false_eq_true, gf0_0, gf0_1, gf0_2, gf1_0, gf1_1, gf1_2, gf1_3, gf1_4, gf1_5, gf1_6, gf1_7, gf1_8, gf1_9, gf1_10, gf1_11, gf2_0, gf2_1, gf2_2, gf3_0, gf3_1, gf4_0, gf4_1, gf4_2, gf5_0, gf5_1, gf5_2, gf5_3, gf6_0, gf6_1, gf6_2, gf6_3, gf6_4, gf6_5, gf6_6, gf7_0, gf7_1, gf7_2, gf7_3, gf7_4, gf7_5, pf0_0, pf0_1, pf0_2, pf1_0, pf1_1, pf1_2, pf1_3, pf1_4, pf1_5, pf1_6, pf1_7, pf1_8, pf1_9, pf1_10, pf1_11, pf2_0, pf2_1, pf2_2, pf3_0, pf3_1, pf4_0, pf4_1, pf4_2, pf5_0, pf5_1, pf5_2, pf5_3, pf6_0, pf6_1, pf6_2, pf6_3, pf6_4, pf6_5, pf6_6, pf7_0, pf7_1, pf7_2, pf7_3, pf7_4, pf7_5]
      cases hl : ldA F G n s with
      | true =>
        rw [hl, if_neg (show ¬ (F s = 99 ∧ true = false) from fun z => by cases z.2)] at hX
        rw [if_pos (show ¬ bI true = nI 0 by decide)]
        exact ih (s + 1) (by omega) hX
      | false =>
        rw [hl, if_pos (show F s = 99 ∧ false = false from ⟨h9, rfl⟩), if_neg (show ¬ false = true by decide)] at hX
        rw [if_neg (show ¬ ¬ bI false = nI 0 by decide)]
        exact hX
    · rw [if_neg (show ¬ (F s = 99 ∧ ldA F G n s = false) from fun z => h9 z.1)] at hX
      rw [if_pos (fun z => h9 ((oV_9 (by omega)).mp z))]
      exact ih (s + 1) (by omega) hX
theorem hF_r {v r i : Nat} (h1 : 1 ≤ v) (h2 : v ≤ 5) (hr : okR v r) (hi : i < tHn v r) : ∀ j, j < v → hF v r i j = 99 ∨ hF v r i j < v := fun j hj => by
  have := tH_lt h1 h2 hr hi hj
  unfold hF
  split
  · exact Or.inl rfl
  · exact Or.inr (this.2 (by omega))
theorem m_form {v r i j : Nat} (h1 : 1 ≤ v) (h2 : v ≤ 5) (hr : okR v r) (hi : i < tHn v r) (hj : j < tHn v r) (ha : ex_g h a = some (cI v f)) (hb : ex_g h b = some (cI v g)) (hf : ∀ q, q < v → f q = oV (hF v r i q)) (hg : ∀ q, q < v → g q = oV (hF v r j q)) (hnb : ex_g h nb = some (oNum (nI p) (nI lo) lp)) (hlp : ex_g h lp = some (cI 6 fp)) (hfp : ∀ j, j < 6 → fp j = nI (lo ^ j % p)) (hX : X (some (.int (nI (fN v p lo r i j)))) h) : ex_W 25 0 [.ref nb, .ref a, .ref b, oU] [] h X := by
  have ht := tFn h1 h2 hr hi hj
  rw [s25_0, s25_1]
  refine l_fnm h2 ha hb hf hg (hF_r h1 h2 hr hi) (hF_r h1 h2 hr hj) hnb hlp hfp v 0 (by omega) ?_
  unfold fN at hX
  by_cases hc : fnm (hF v r i) (hF v r j) v v 0 = true
  · rw [if_pos hc] at ht ⊢
    rw [if_neg ht.1] at hX
    rw [ht.2.2]
    exact hX
  · rw [if_neg hc] at ht ⊢
    rw [if_pos ht] at hX
    exact hX
theorem l_cinv {x : Nat} (hp : 2 ≤ p) (hp2 : p ≤ 101) (hx : x < p) (hnb : ex_g h nb = some (oNum (nI p) (nI lo) lp)) : ∀ (m w : Nat), m + w = p → X (some (.int (nI (invL p x m w)))) h → ex_W 32 2 [.ref nb, .int (nI x), .int (nI w)] [] h X := by
  intro m
  induction m with
  | zero =>
    intro w hm hX
    rw [s32_2]
    simp only [s32_0, s32_1, s32_3, s32_4, s32_7, s32_10, s32_11, s32_12, s32_13, s32_16, s32_17, s32_20, s32_21, s32_22, s32_25, s32_28, s32_29, is_O, opt_s, opt_n, cat_0, cat_i, cat_r, true_and, Nat.zero_le, Nat.reduceAdd, Nat.reduceLeDiff, al_I, as_I, rl_R, ln_I, ln_R, nI_add, pk_mul, g_set, set_set, not_false_eq_true, gf0_0, gf0_1, gf0_2, gf1_0, gf1_1, gf1_2, gf1_3, gf1_4, gf1_5, gf1_6, gf1_7, gf1_8, gf1_9, gf1_10, gf1_11, gf2_0, gf2_1, gf2_2, gf3_0, gf3_1, gf4_0, gf4_1, gf4_2, gf5_0, gf5_1, gf5_2, gf5_3, gf6_0, gf6_1, gf6_2, gf6_3, gf6_4, gf6_5, gf6_6, gf7_0, gf7_1, gf7_2, gf7_3, gf7_4, gf7_5, pf0_0, pf0_1, pf0_2, pf1_0, pf1_1, pf1_2, pf1_3, pf1_4, pf1_5, pf1_6, pf1_7, pf1_8, pf1_9, pf1_10, pf1_11, pf2_0, pf2_1, pf2_2, pf3_0, pf3_1, pf4_0, pf4_1, pf4_2, pf5_0, pf5_1, pf5_2, pf5_3, pf6_0, pf6_1, pf6_2, pf6_3, pf6_4, pf6_5, pf6_6, pf7_0, pf7_1, pf7_2, pf7_3, pf7_4, pf7_5, hnb]
    rw [if_pos ((nI_l1 (by omega) (by omega)).mpr (by omega))]
    exact hX
  | succ m ih =>
    intro w hm hX
    rw [invL] at hX
    have b2 : x * w % p < p := Nat.mod_lt _ (by omega)
    have e1 : nF (nI p) (nI (x * w)) = nI (x * w % p) := by rw [← pk_mul]; exact nF_mul hp hp2 hx (by omega)
    rw [s32_2]
    simp only [s32_0, s32_1, s32_3, s32_4, s32_7, s32_10, s32_11, s32_12, s32_13, s32_16, s32_17, s32_20, s32_21, s32_22, s32_25, s32_28, s32_29, is_O, opt_s, opt_n, cat_0, cat_i, cat_r, true_and, Nat.zero_le, Nat.reduceAdd, Nat.reduceLeDiff, al_I, as_I, rl_R, ln_I, ln_R, nI_add, pk_mul, g_set, set_set, not_false_eq_true, gf0_0, gf0_1, gf0_2, gf1_0, gf1_1, gf1_2, gf1_3, gf1_4, gf1_5, gf1_6, gf1_7, gf1_8, gf1_9, gf1_10, gf1_11, gf2_0, gf2_1, gf2_2, gf3_0, gf3_1, gf4_0, gf4_1, gf4_2, gf5_0, gf5_1, gf5_2, gf5_3, gf6_0, gf6_1, gf6_2, gf6_3, gf6_4, gf6_5, gf6_6, gf7_0, gf7_1, gf7_2, gf7_3, gf7_4, gf7_5, pf0_0, pf0_1, pf0_2, pf1_0, pf1_1, pf1_2, pf1_3, pf1_4, pf1_5, pf1_6, pf1_7, pf1_8, pf1_9, pf1_10, pf1_11, pf2_0, pf2_1, pf2_2, pf3_0, pf3_1, pf4_0, pf4_1, pf4_2, pf5_0, pf5_1, pf5_2, pf5_3, pf6_0, pf6_1, pf6_2, pf6_3, pf6_4, pf6_5, pf6_6, pf7_0, pf7_1, pf7_2, pf7_3, pf7_4, pf7_5, hnb, m_mul hnb, e1]
    rw [if_neg (fun z => absurd ((nI_l1 (by omega) (by omega)).mp z) (by omega))]
    by_cases hc : x * w % p = 1
    · rw [if_pos hc] at hX
      rw [if_neg (fun z => z (by rw [hc]))]
      exact hX
    · rw [if_neg hc] at hX
      rw [if_pos (fun z => absurd ((nI_e (by omega) (by omega)).mp z) (by omega))]
      exact ih (w + 1) (by omega) hX
theorem m_inverse {x : Nat} (hp : 2 ≤ p) (hp2 : p ≤ 101) (hx : x < p) (hnb : ex_g h nb = some (oNum (nI p) (nI lo) lp)) (hX : X (some (.int (nI (iv p x)))) h) : ex_W 32 0 [.ref nb, .int (nI x), oU] [] h X := by
  rw [s32_0, s32_1]
  exact l_cinv hp hp2 hx hnb (p - 1) 1 (by omega) hX
theorem l_cbk {K : Nat} (hK : K ≤ 200) (hp : 2 ≤ p) (hp2 : p ≤ 101) (hlo : lo < p) (hnb : ex_g h nb = some (oNum (nI p) (nI lo) lp)) : ∀ (m i : Nat) (l5 : Value), m + i = K → X (some (.int (nI (bk p lo K)))) h → ex_W 34 7 [.ref nb, .int (nI K), .int (nI (bkp p lo i).1), .int (nI (bkp p lo i).2), .int (nI i), l5] [] h X := by
  intro m
  induction m with
  | zero =>
    intro i l5 hm hX
    obtain rfl : i = K := by omega
    rw [s34_7]
    simp only [s34_0, s34_1, s34_2, s34_3, s34_4, s34_5, s34_9, s34_10, s34_13, s34_14, s34_15, s34_16, s34_19, s34_20, s34_23, s34_24, s34_27, s34_29, s34_30, s34_31, s34_33, s34_34, s34_37, s34_40, s34_41, is_O, opt_s, opt_n, cat_0, cat_i, cat_r, true_and, Nat.zero_le, Nat.reduceAdd, Nat.reduceLeDiff, al_I, as_I, rl_R, ln_I, ln_R, nI_add, pk_mul, g_set, set_set, not_false_eq_true, gf0_0, gf0_1, gf0_2, gf1_0, gf1_1, gf1_2, gf1_3, gf1_4, gf1_5, gf1_6, gf1_7, gf1_8, gf1_9, gf1_10, gf1_11, gf2_0, gf2_1, gf2_2, gf3_0, gf3_1, gf4_0, gf4_1, gf4_2, gf5_0, gf5_1, gf5_2, gf5_3, gf6_0, gf6_1, gf6_2, gf6_3, gf6_4, gf6_5, gf6_6, gf7_0, gf7_1, gf7_2, gf7_3, gf7_4, gf7_5, pf0_0, pf0_1, pf0_2, pf1_0, pf1_1, pf1_2, pf1_3, pf1_4, pf1_5, pf1_6, pf1_7, pf1_8, pf1_9, pf1_10, pf1_11, pf2_0, pf2_1, pf2_2, pf3_0, pf3_1, pf4_0, pf4_1, pf4_2, pf5_0, pf5_1, pf5_2, pf5_3, pf6_0, pf6_1, pf6_2, pf6_3, pf6_4, pf6_5, pf6_6, pf7_0, pf7_1, pf7_2, pf7_3, pf7_4, pf7_5]
    rw [if_pos ((nI_l1 (by omega) (by omega)).mpr (by omega))]
    exact hX
  | succ m ih =>
    intro i l5 hm hX
    obtain ⟨q1, q2⟩ := bkp_lt (p := p) (lo := lo) hp i
    have e1 : nF (nI p) (nI (lo * (bkp p lo i).2)) = nI (lo * (bkp p lo i).2 % p) := by rw [← pk_mul]; exact nF_mul hp hp2 hlo q2
    have b2 : lo * (bkp p lo i).2 % p < p := Nat.mod_lt _ (by omega)
    have e2 : nF (nI p) (nI (lo * (bkp p lo i).2 % p) - nI (bkp p lo i).1) = nI (bkp p lo (i + 1)).2 := by
      rw [nF_s hp (by omega) (by omega) (by omega)]
      refine congrArg nI ?_
      show _ = (lo * (bkp p lo i).2 + p - (bkp p lo i).1) % p
      rw [Nat.add_sub_assoc (by omega), Nat.add_sub_assoc (by omega), Nat.mod_add_mod]
    rw [s34_7]
    simp only [s34_0, s34_1, s34_2, s34_3, s34_4, s34_5, s34_9, s34_10, s34_13, s34_14, s34_15, s34_16, s34_19, s34_20, s34_23, s34_24, s34_27, s34_29, s34_30, s34_31, s34_33, s34_34, s34_37, s34_40, s34_41, is_O, opt_s, opt_n, cat_0, cat_i, cat_r, true_and, Nat.zero_le, Nat.reduceAdd, Nat.reduceLeDiff, al_I, as_I, rl_R, ln_I, ln_R, nI_add, pk_mul, g_set, set_set, not_false_eq_true, gf0_0, gf0_1, gf0_2, gf1_0, gf1_1, gf1_2, gf1_3, gf1_4, gf1_5, gf1_6, gf1_7, gf1_8, gf1_9, gf1_10, gf1_11, gf2_0, gf2_1, gf2_2, gf3_0, gf3_1, gf4_0, gf4_1, gf4_2, gf5_0, gf5_1, gf5_2, gf5_3, gf6_0, gf6_1, gf6_2, gf6_3, gf6_4, gf6_5, gf6_6, gf7_0, gf7_1, gf7_2, gf7_3, gf7_4, gf7_5, pf0_0, pf0_1, pf0_2, pf1_0, pf1_1, pf1_2, pf1_3, pf1_4, pf1_5, pf1_6, pf1_7, pf1_8, pf1_9, pf1_10, pf1_11, pf2_0, pf2_1, pf2_2, pf3_0, pf3_1, pf4_0, pf4_1, pf4_2, pf5_0, pf5_1, pf5_2, pf5_3, pf6_0, pf6_1, pf6_2, pf6_3, pf6_4, pf6_5, pf6_6, pf7_0, pf7_1, pf7_2, pf7_3, pf7_4, pf7_5, hnb, m_mul hnb, m_sub hnb, e1, e2]
    rw [if_neg (fun z => absurd ((nI_l1 (by omega) (by omega)).mp z) (by omega))]
    exact ih (i + 1) _ (by omega) hX
theorem m_bracketOf {k : Nat} (hk : k ≤ 200) (hp : 2 ≤ p) (hp2 : p ≤ 101) (hlo : lo < p) (hnb : ex_g h nb = some (oNum (nI p) (nI lo) lp)) (hX : X (some (.int (nI (bk p lo k)))) h) : ex_W 34 0 [.ref nb, .int (nI k), oU, oU, oU, oU] [] h X := by
  rw [s34_0, s34_1, s34_2, s34_3, s34_4, s34_5]
  exact l_cbk hk hp hp2 hlo hnb k 0 _ (by omega) hX
theorem l_chp {n0 : Nat} (hn : n0 ≤ 5) (hp : 2 ≤ p) (hp2 : p ≤ 101) (hlo : lo < p) (hnb : ex_g h nb = some (oNum (nI p) (nI lo) lp)) : ∀ (m k : Nat), m + k = n0 + 1 → X (some (.int (bI (hpj p lo m k)))) h → ex_W 35 2 [.ref nb, .int (nI n0), .int (nI k)] [] h X := by
  intro m
  induction m with
  | zero =>
    intro k hm hX
    rw [s35_2]
    simp only [s35_0, s35_1, s35_3, s35_4, s35_7, s35_8, s35_9, s35_12, s35_15, s35_16, s35_17, s35_20, s35_23, s35_24, is_O, opt_s, opt_n, cat_0, cat_i, cat_r, true_and, Nat.zero_le, Nat.reduceAdd, Nat.reduceLeDiff, al_I, as_I, rl_R, ln_I, ln_R, nI_add, pk_mul, g_set, set_set, not_false_eq_true, gf0_0, gf0_1, gf0_2, gf1_0, gf1_1, gf1_2, gf1_3, gf1_4, gf1_5, gf1_6, gf1_7, gf1_8, gf1_9, gf1_10, gf1_11, gf2_0, gf2_1, gf2_2, gf3_0, gf3_1, gf4_0, gf4_1, gf4_2, gf5_0, gf5_1, gf5_2, gf5_3, gf6_0, gf6_1, gf6_2, gf6_3, gf6_4, gf6_5, gf6_6, gf7_0, gf7_1, gf7_2, gf7_3, gf7_4, gf7_5, pf0_0, pf0_1, pf0_2, pf1_0, pf1_1, pf1_2, pf1_3, pf1_4, pf1_5, pf1_6, pf1_7, pf1_8, pf1_9, pf1_10, pf1_11, pf2_0, pf2_1, pf2_2, pf3_0, pf3_1, pf4_0, pf4_1, pf4_2, pf5_0, pf5_1, pf5_2, pf5_3, pf6_0, pf6_1, pf6_2, pf6_3, pf6_4, pf6_5, pf6_6, pf7_0, pf7_1, pf7_2, pf7_3, pf7_4, pf7_5]
    rw [if_pos ((nI_l2 (by omega) (by omega)).mpr (by omega))]
    exact ⟨Or.inr trivial, hX⟩
  | succ m ih =>
    intro k hm hX
    rw [hpj] at hX
    have hbl : bk p lo k < p := (bkp_lt (p := p) (lo := lo) hp k).1
    rw [s35_2]
    simp only [s35_0, s35_1, s35_3, s35_4, s35_7, s35_8, s35_9, s35_12, s35_15, s35_16, s35_17, s35_20, s35_23, s35_24, is_O, opt_s, opt_n, cat_0, cat_i, cat_r, true_and, Nat.zero_le, Nat.reduceAdd, Nat.reduceLeDiff, al_I, as_I, rl_R, ln_I, ln_R, nI_add, pk_mul, g_set, set_set, not_false_eq_true, gf0_0, gf0_1, gf0_2, gf1_0, gf1_1, gf1_2, gf1_3, gf1_4, gf1_5, gf1_6, gf1_7, gf1_8, gf1_9, gf1_10, gf1_11, gf2_0, gf2_1, gf2_2, gf3_0, gf3_1, gf4_0, gf4_1, gf4_2, gf5_0, gf5_1, gf5_2, gf5_3, gf6_0, gf6_1, gf6_2, gf6_3, gf6_4, gf6_5, gf6_6, gf7_0, gf7_1, gf7_2, gf7_3, gf7_4, gf7_5, pf0_0, pf0_1, pf0_2, pf1_0, pf1_1, pf1_2, pf1_3, pf1_4, pf1_5, pf1_6, pf1_7, pf1_8, pf1_9, pf1_10, pf1_11, pf2_0, pf2_1, pf2_2, pf3_0, pf3_1, pf4_0, pf4_1, pf4_2, pf5_0, pf5_1, pf5_2, pf5_3, pf6_0, pf6_1, pf6_2, pf6_3, pf6_4, pf6_5, pf6_6, pf7_0, pf7_1, pf7_2, pf7_3, pf7_4, pf7_5, hnb]
    rw [if_neg (fun z => absurd ((nI_l2 (by omega) (by omega)).mp z) (by omega))]
    refine m_bracketOf (by omega) hp hp2 hlo hnb ?_
    simp only [s35_0, s35_1, s35_3, s35_4, s35_7, s35_8, s35_9, s35_12, s35_15, s35_16, s35_17, s35_20, s35_23, s35_24, is_O, opt_s, opt_n, cat_0, cat_i, cat_r, true_and, Nat.zero_le, Nat.reduceAdd, Nat.reduceLeDiff, al_I, as_I, rl_R, ln_I, ln_R, nI_add, pk_mul, g_set, set_set, not_false_eq_true, gf0_0, gf0_1, gf0_2, gf1_0, gf1_1, gf1_2, gf1_3, gf1_4, gf1_5, gf1_6, gf1_7, gf1_8, gf1_9, gf1_10, gf1_11, gf2_0, gf2_1, gf2_2, gf3_0, gf3_1, gf4_0, gf4_1, gf4_2, gf5_0, gf5_1, gf5_2, gf5_3, gf6_0, gf6_1, gf6_2, gf6_3, gf6_4, gf6_5, gf6_6, gf7_0, gf7_1, gf7_2, gf7_3, gf7_4, gf7_5, pf0_0, pf0_1, pf0_2, pf1_0, pf1_1, pf1_2, pf1_3, pf1_4, pf1_5, pf1_6, pf1_7, pf1_8, pf1_9, pf1_10, pf1_11, pf2_0, pf2_1, pf2_2, pf3_0, pf3_1, pf4_0, pf4_1, pf4_2, pf5_0, pf5_1, pf5_2, pf5_3, pf6_0, pf6_1, pf6_2, pf6_3, pf6_4, pf6_5, pf6_6, pf7_0, pf7_1, pf7_2, pf7_3, pf7_4, pf7_5]
    by_cases hc : bk p lo k = 0
    · rw [hc] at hX ⊢
      rw [if_neg (fun z => z rfl)]
      exact ⟨Or.inl trivial, hX⟩
    · have hd : decide (bk p lo k ≠ 0) = true := by simp [hc]
      rw [hd, Bool.true_and] at hX
      rw [if_pos (fun z => absurd ((nI_e (by omega) (by omega)).mp z) (by omega))]
      exact ih (k + 1) (by omega) hX
theorem m_hasProjector {n0 : Nat} (hn1 : 1 ≤ n0) (hn : n0 ≤ 5) (hp : 2 ≤ p) (hp2 : p ≤ 101) (hlo : lo < p) (hnb : ex_g h nb = some (oNum (nI p) (nI lo) lp)) (hX : X (some (.int (bI (hpj p lo (n0 - 1) 2)))) h) : ex_W 35 0 [.ref nb, .int (nI n0), oU] [] h X := by
  rw [s35_0, s35_1]
  exact l_chp hn hp hp2 hlo hnb (n0 - 1) 2 (by omega) hX
end C1
