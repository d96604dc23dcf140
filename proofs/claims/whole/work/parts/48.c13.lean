/-! THE CLASS: what an image keeps -/
def srow (s : Nat) : Nat → Option Nat := fun i => if i < 5 then some (s + 4 + i) else none
/-- a State at s, nine cells: its Diagrams at sh, prime, loop and sums -/
def STT (s sh p lo : Nat) (S : Nat → Nat → Nat) (h : ex_Hp) : Prop := ex_g h s = some (cO 4 [.ref sh, .ref (s + 1), .ref (s + 3)]) ∧ ex_g h (s + 1) = some (oNum (nI p) (nI lo) (s + 2)) ∧ (∃ fp, ex_g h (s + 2) = some (cI 6 fp) ∧ ∀ j, j < 6 → fp j = nI (lo ^ j % p)) ∧ ex_g h (s + 3) = some (cR 2 5 (srow s)) ∧ ∀ i, i < 5 → ∃ f, ex_g h (s + 4 + i) = some (cI 42 f) ∧ ∀ d, d < 42 → f d = nI (S i d)
section C13
variable {h H : ex_Hp} {X : Option Value → ex_Hp → Prop} {s sh p lo : Nat} {S : Nat → Nat → Nat}
theorem STT.fr (hS : STT s sh p lo S h) (hq : ∀ q, s ≤ q → q < s + 9 → ex_g H q = ex_g h q) : STT s sh p lo S H := by
  obtain ⟨a1, a2, ⟨fp, a3, a4⟩, a5, a6⟩ := hS
  refine ⟨?_, ?_, ⟨fp, ?_, a4⟩, ?_, fun i hi => ?_⟩
  · rw [hq _ (by omega) (by omega)]; exact a1
  · rw [hq _ (by omega) (by omega)]; exact a2
  · rw [hq _ (by omega) (by omega)]; exact a3
  · rw [hq _ (by omega) (by omega)]; exact a5
  · obtain ⟨f, b1, b2⟩ := a6 i hi
    exact ⟨f, by rw [hq _ (by omega) (by omega)]; exact b1, b2⟩
theorem srow_i {i : Nat} (hi : i < 5) : va_rf (srow s i) = .ref (s + 4 + i) := by
  unfold srow
  rw [if_pos hi]
  rfl
def sZ (S : Nat → Nat → Nat) (t : Nat) : Nat → Nat → Nat := fun i d => if i < t then 0 else S i d
/-- only rows of a State have changed -/
def chS (s : Nat) (h H : ex_Hp) : Prop := H.1 = h.1 ∧ H.2.1 = h.2.1 ∧ ∀ q, q < s + 4 ∨ s + 9 ≤ q → ex_g H q = ex_g h q
theorem STT.row {i : Nat} {g : Nat → Int32} {W : Nat → Nat} (hS : STT s sh p lo S h) (hi : i < 5) (hc : ∀ q, ¬ q = s + 4 + i → ex_g H q = ex_g h q) (hg : ex_g H (s + 4 + i) = some (cI 42 g)) (hW : ∀ d, d < 42 → g d = nI (W d)) : STT s sh p lo (fun q d => if q = i then W d else S q d) H := by
  obtain ⟨a1, a2, ⟨fp, a3, a4⟩, a5, a6⟩ := hS
  refine ⟨?_, ?_, ⟨fp, ?_, a4⟩, ?_, fun j hj => ?_⟩
  · rw [hc _ (by omega)]; exact a1
  · rw [hc _ (by omega)]; exact a2
  · rw [hc _ (by omega)]; exact a3
  · rw [hc _ (by omega)]; exact a5
  · by_cases hji : j = i
    · subst hji
      exact ⟨g, hg, fun d hd => (hW d hd).trans (congrArg nI (if_pos rfl).symm)⟩
    · obtain ⟨f, b1, b2⟩ := a6 j hj
      exact ⟨f, by rw [hc _ (by omega)]; exact b1, fun d hd => (b2 d hd).trans (congrArg nI (if_neg hji).symm)⟩
theorem STT.ext {S2 : Nat → Nat → Nat} (hS : STT s sh p lo S h) (he : ∀ i, i < 5 → ∀ d, d < 42 → S2 i d = S i d) : STT s sh p lo S2 h := by
  obtain ⟨a1, a2, a3, a5, a6⟩ := hS
  refine ⟨a1, a2, a3, a5, fun i hi => ?_⟩
  obtain ⟨f, b1, b2⟩ := a6 i hi
  exact ⟨f, b1, fun d hd => by rw [b2 d hd, he i hi d hd]⟩
theorem l_cs (hX : ∀ H, chS s h H → STT s sh p lo (fun _ _ => 0) H → X none H) : ∀ (m t : Nat) (H : ex_Hp), m + t = 5 → chS s h H → STT s sh p lo (sZ S t) H → ex_W 46 2 [.ref s, .int (nI t)] [] H X := by
  intro m
  induction m with
  | zero =>
    intro t H hm hH hS
    obtain rfl : t = 5 := by omega
    rw [s46_2]
    simp only [s46_0, s46_1, s46_3, s46_4, s46_7, s46_8, s46_11, s46_12, s46_13, s46_14, s46_17, s46_20, s46_23, is_O, opt_s, opt_n, cat_0, cat_i, cat_r, true_and, Nat.zero_le, Nat.reduceAdd, Nat.reduceLeDiff, al_I, as_I, rl_R, ln_I, ln_R, nI_add, pk_mul, g_set, set_set, not_false_eq_true, gf0_0, gf0_1, gf0_2, gf1_0, gf1_1, gf1_2, gf1_3, gf1_4, gf1_5, gf1_6, gf1_7, gf1_8, gf1_9, gf1_10, gf1_11, gf2_0, gf2_1, gf2_2, gf3_0, gf3_1, gf4_0, gf4_1, gf4_2, gf5_0, gf5_1, gf5_2, gf5_3, gf6_0, gf6_1, gf6_2, gf6_3, gf6_4, gf6_5, gf6_6, gf7_0, gf7_1, gf7_2, gf7_3, gf7_4, gf7_5, pf0_0, pf0_1, pf0_2, pf1_0, pf1_1, pf1_2, pf1_3, pf1_4, pf1_5, pf1_6, pf1_7, pf1_8, pf1_9, pf1_10, pf1_11, pf2_0, pf2_1, pf2_2, pf3_0, pf3_1, pf4_0, pf4_1, pf4_2, pf5_0, pf5_1, pf5_2, pf5_3, pf6_0, pf6_1, pf6_2, pf6_3, pf6_4, pf6_5, pf6_6, pf7_0, pf7_1, pf7_2, pf7_3, pf7_4, pf7_5]
    rw [if_pos ((nI_l1 (by omega) (by omega)).mpr (by omega))]
    refine hX H hH (hS.ext (fun i hi d hd => ?_))
    unfold sZ
    rw [if_pos hi]
  | succ m ih =>
    intro t H hm hH hS
    have ht : t < 5 := by omega
    have g1 := hS.1
    have g4 := hS.2.2.2.1
    obtain ⟨f, b1, b2⟩ := hS.2.2.2.2 t ht
    rw [s46_2]
    simp only [s46_0, s46_1, s46_3, s46_4, s46_7, s46_8, s46_11, s46_12, s46_13, s46_14, s46_17, s46_20, s46_23, is_O, opt_s, opt_n, cat_0, cat_i, cat_r, true_and, Nat.zero_le, Nat.reduceAdd, Nat.reduceLeDiff, al_I, as_I, rl_R, ln_I, ln_R, nI_add, pk_mul, g_set, set_set, not_false_eq_true, gf0_0, gf0_1, gf0_2, gf1_0, gf1_1, gf1_2, gf1_3, gf1_4, gf1_5, gf1_6, gf1_7, gf1_8, gf1_9, gf1_10, gf1_11, gf2_0, gf2_1, gf2_2, gf3_0, gf3_1, gf4_0, gf4_1, gf4_2, gf5_0, gf5_1, gf5_2, gf5_3, gf6_0, gf6_1, gf6_2, gf6_3, gf6_4, gf6_5, gf6_6, gf7_0, gf7_1, gf7_2, gf7_3, gf7_4, gf7_5, pf0_0, pf0_1, pf0_2, pf1_0, pf1_1, pf1_2, pf1_3, pf1_4, pf1_5, pf1_6, pf1_7, pf1_8, pf1_9, pf1_10, pf1_11, pf2_0, pf2_1, pf2_2, pf3_0, pf3_1, pf4_0, pf4_1, pf4_2, pf5_0, pf5_1, pf5_2, pf5_3, pf6_0, pf6_1, pf6_2, pf6_3, pf6_4, pf6_5, pf6_6, pf7_0, pf7_1, pf7_2, pf7_3, pf7_4, pf7_5, g1, g4, xi_n (show t < 5 by omega) (show 5 < 2147483648 by decide), srow_i ht]
    rw [if_neg (fun z => absurd ((nI_l1 (by omega) (by omega)).mp z) (by omega))]
    refine m_fill (by decide) b1 (fun G g hG hg hgx => ?_)
    simp only [s46_0, s46_1, s46_3, s46_4, s46_7, s46_8, s46_11, s46_12, s46_13, s46_14, s46_17, s46_20, s46_23, is_O, opt_s, opt_n, cat_0, cat_i, cat_r, true_and, Nat.zero_le, Nat.reduceAdd, Nat.reduceLeDiff, al_I, as_I, rl_R, ln_I, ln_R, nI_add, pk_mul, g_set, set_set, not_false_eq_true, gf0_0, gf0_1, gf0_2, gf1_0, gf1_1, gf1_2, gf1_3, gf1_4, gf1_5, gf1_6, gf1_7, gf1_8, gf1_9, gf1_10, gf1_11, gf2_0, gf2_1, gf2_2, gf3_0, gf3_1, gf4_0, gf4_1, gf4_2, gf5_0, gf5_1, gf5_2, gf5_3, gf6_0, gf6_1, gf6_2, gf6_3, gf6_4, gf6_5, gf6_6, gf7_0, gf7_1, gf7_2, gf7_3, gf7_4, gf7_5, pf0_0, pf0_1, pf0_2, pf1_0, pf1_1, pf1_2, pf1_3, pf1_4, pf1_5, pf1_6, pf1_7, pf1_8, pf1_9, pf1_10, pf1_11, pf2_0, pf2_1, pf2_2, pf3_0, pf3_1, pf4_0, pf4_1, pf4_2, pf5_0, pf5_1, pf5_2, pf5_3, pf6_0, pf6_1, pf6_2, pf6_3, pf6_4, pf6_5, pf6_6, pf7_0, pf7_1, pf7_2, pf7_3, pf7_4, pf7_5]
    refine ih (t + 1) G (by omega) ⟨hG.1.trans hH.1, hG.2.1.trans hH.2.1, fun q hq => (hG.2.2 q (by simp; omega)).trans (hH.2.2 q hq)⟩ ((hS.row (W := fun _ => 0) ht (fun q hq => hG.2.2 q (by simp [hq])) hg hgx).ext (fun i hi d hd => ?_))
    unfold sZ
    by_cases hc : i = t
    · rw [if_pos hc, if_pos (by omega)]
    · rw [if_neg hc]
      by_cases hc2 : i < t
      · rw [if_pos hc2, if_pos (by omega)]
      · rw [if_neg hc2, if_neg (by omega)]
theorem m_clearSums (hS : STT s sh p lo S h) (hX : ∀ H, chS s h H → STT s sh p lo (fun _ _ => 0) H → X none H) : ex_W 46 0 [.ref s, oU] [] h X := by
  rw [s46_0, s46_1]
  exact l_cs hX 5 0 h (by omega) ⟨rfl, rfl, fun _ _ => rfl⟩ (hS.ext (fun i hi d hd => by unfold sZ; rw [if_neg (by omega)]))
theorem l_az {W : Nat → Nat} {r : Nat} {f : Nat → Int32} {l0 l1 : Value} (hr : ex_g h r = some (cI 42 f)) (hf : ∀ d, d < 42 → f d = nI (W d)) (hWl : ∀ d, W d < 1000) (hX : X (some (.int (nI (cntP W 42)))) h) : ∀ (m t : Nat) (l6 : Value), m + t = 42 → ex_W 47 16 [l0, l1, .int (nI (cntP W t)), .ref r, .int (nI 42), .int (nI t), l6] [] h X := by
  intro m
  induction m with
  | zero =>
    intro t l6 hm
    obtain rfl : t = 42 := by omega
    rw [s47_16]
    simp only [s47_0, s47_1, s47_2, s47_3, s47_6, s47_7, s47_8, s47_9, s47_10, s47_11, s47_13, s47_14, s47_18, s47_20, s47_23, s47_24, s47_26, s47_27, s47_29, s47_31, s47_34, s47_37, s47_40, s47_43, s47_44, is_O, opt_s, opt_n, cat_0, cat_i, cat_r, true_and, Nat.zero_le, Nat.reduceAdd, Nat.reduceLeDiff, al_I, as_I, rl_R, ln_I, ln_R, nI_add, pk_mul, g_set, set_set, not_false_eq_true, gf0_0, gf0_1, gf0_2, gf1_0, gf1_1, gf1_2, gf1_3, gf1_4, gf1_5, gf1_6, gf1_7, gf1_8, gf1_9, gf1_10, gf1_11, gf2_0, gf2_1, gf2_2, gf3_0, gf3_1, gf4_0, gf4_1, gf4_2, gf5_0, gf5_1, gf5_2, gf5_3, gf6_0, gf6_1, gf6_2, gf6_3, gf6_4, gf6_5, gf6_6, gf7_0, gf7_1, gf7_2, gf7_3, gf7_4, gf7_5, pf0_0, pf0_1, pf0_2, pf1_0, pf1_1, pf1_2, pf1_3, pf1_4, pf1_5, pf1_6, pf1_7, pf1_8, pf1_9, pf1_10, pf1_11, pf2_0, pf2_1, pf2_2, pf3_0, pf3_1, pf4_0, pf4_1, pf4_2, pf5_0, pf5_1, pf5_2, pf5_3, pf6_0, pf6_1, pf6_2, pf6_3, pf6_4, pf6_5, pf6_6, pf7_0, pf7_1, pf7_2, pf7_3, pf7_4, pf7_5]
    rw [if_pos ((nI_l1 (by omega) (by omega)).mpr (by omega))]
    exact hX
  | succ m ih =>
    intro t l6 hm
    have hl := hWl t
    have := ih (t + 1) (.int (nI (W t))) (by omega)
    rw [cntP] at this
    rw [s47_16]
    simp only [s47_0, s47_1, s47_2, s47_3, s47_6, s47_7, s47_8, s47_9, s47_10, s47_11, s47_13, s47_14, s47_18, s47_20, s47_23, s47_24, s47_26, s47_27, s47_29, s47_31, s47_34, s47_37, s47_40, s47_43, s47_44, is_O, opt_s, opt_n, cat_0, cat_i, cat_r, true_and, Nat.zero_le, Nat.reduceAdd, Nat.reduceLeDiff, al_I, as_I, rl_R, ln_I, ln_R, nI_add, pk_mul, g_set, set_set, not_false_eq_true, gf0_0, gf0_1, gf0_2, gf1_0, gf1_1, gf1_2, gf1_3, gf1_4, gf1_5, gf1_6, gf1_7, gf1_8, gf1_9, gf1_10, gf1_11, gf2_0, gf2_1, gf2_2, gf3_0, gf3_1, gf4_0, gf4_1, gf4_2, gf5_0, gf5_1, gf5_2, gf5_3, gf6_0, gf6_1, gf6_2, gf6_3, gf6_4, gf6_5, gf6_6, gf7_0, gf7_1, gf7_2, gf7_3, gf7_4, gf7_5, pf0_0, pf0_1, pf0_2, pf1_0, pf1_1, pf1_2, pf1_3, pf1_4, pf1_5, pf1_6, pf1_7, pf1_8, pf1_9, pf1_10, pf1_11, pf2_0, pf2_1, pf2_2, pf3_0, pf3_1, pf4_0, pf4_1, pf4_2, pf5_0, pf5_1, pf5_2, pf5_3, pf6_0, pf6_1, pf6_2, pf6_3, pf6_4, pf6_5, pf6_6, pf7_0, pf7_1, pf7_2, pf7_3, pf7_4, pf7_5, hr, xi_n (show t < 42 by omega) (show 42 < 2147483648 by decide), hf t (by omega)]
    rw [if_neg (fun z => absurd ((nI_l1 (by omega) (by omega)).mp z) (by omega))]
    by_cases hc : 0 < W t
    · rw [if_pos hc] at this
      rw [if_neg (fun z => absurd ((nI_l1 (by omega) (by omega)).mp z) (by omega))]
      exact this
    · rw [if_neg hc] at this
      rw [if_pos ((nI_l1 (by omega) (by omega)).mpr (by omega))]
      exact this
theorem m_aboveZero {i : Nat} (hi : i < 5) (hS : STT s sh p lo S h) (hSl : ∀ d, S i d < 1000) (hX : X (some (.int (nI (cntP (S i) 42)))) h) : ex_W 47 0 [.ref s, .int (nI i), oU, oU, oU, oU, oU] [] h X := by
  have g1 := hS.1
  have g4 := hS.2.2.2.1
  obtain ⟨f, b1, b2⟩ := hS.2.2.2.2 i hi
  simp only [s47_0, s47_1, s47_2, s47_3, s47_6, s47_7, s47_8, s47_9, s47_10, s47_11, s47_13, s47_14, s47_18, s47_20, s47_23, s47_24, s47_26, s47_27, s47_29, s47_31, s47_34, s47_37, s47_40, s47_43, s47_44, is_O, opt_s, opt_n, cat_0, cat_i, cat_r, true_and, Nat.zero_le, Nat.reduceAdd, Nat.reduceLeDiff, al_I, as_I, rl_R, ln_I, ln_R, nI_add, pk_mul, g_set, set_set, not_false_eq_true, gf0_0, gf0_1, gf0_2, gf1_0, gf1_1, gf1_2, gf1_3, gf1_4, gf1_5, gf1_6, gf1_7, gf1_8, gf1_9, gf1_10, gf1_11, gf2_0, gf2_1, gf2_2, gf3_0, gf3_1, gf4_0, gf4_1, gf4_2, gf5_0, gf5_1, gf5_2, gf5_3, gf6_0, gf6_1, gf6_2, gf6_3, gf6_4, gf6_5, gf6_6, gf7_0, gf7_1, gf7_2, gf7_3, gf7_4, gf7_5, pf0_0, pf0_1, pf0_2, pf1_0, pf1_1, pf1_2, pf1_3, pf1_4, pf1_5, pf1_6, pf1_7, pf1_8, pf1_9, pf1_10, pf1_11, pf2_0, pf2_1, pf2_2, pf3_0, pf3_1, pf4_0, pf4_1, pf4_2, pf5_0, pf5_1, pf5_2, pf5_3, pf6_0, pf6_1, pf6_2, pf6_3, pf6_4, pf6_5, pf6_6, pf7_0, pf7_1, pf7_2, pf7_3, pf7_4, pf7_5, g1, g4, xi_n (show i < 5 by omega) (show 5 < 2147483648 by decide), srow_i hi, b1]
  exact l_az b1 b2 hSl hX 42 0 _ (by omega)
theorem cnt_42 {W : Nat → Nat} {C : Nat} (hz : ∀ d, C ≤ d → W d = 0) : ∀ k, cntP W (C + k) = cntP W C := by
  intro k
  induction k with
  | zero => rfl
  | succ k ih =>
    rw [show C + (k + 1) = C + k + 1 by omega, cntP, ih, if_neg (by rw [hz _ (by omega)]; omega), Nat.add_zero]
end C13
