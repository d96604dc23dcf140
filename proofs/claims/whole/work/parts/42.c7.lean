/-! THE CLASS: hooks and ways -/
section C7
variable {h H : ex_Hp} {X : Option Value → ex_Hp → Prop} {v a x y u l d : Nat} {c3 c4 c6 c7 c8 : Value} {fu fl : Nat → Int32}
theorem l_fh (h1 : 1 ≤ v) (h2 : v ≤ 5) (hD : DK v a c3 c4 c6 c7 c8 h) {l1 : Value} (hX : ∀ H f, chD v a h H → DK v a c3 c4 c6 c7 c8 H → ex_g H (a + eO v) = some (cI (2 * v) f) → (∀ j, j < 2 * v → f j = nI (2 * v - 1 - j)) → ex_W 10 27 [.ref a, l1, .int (nI (2 * v))] [] H X) : ∀ (m t : Nat) (H : ex_Hp) (f : Nat → Int32), m + t = 2 * v → chD v a h H → DK v a c3 c4 c6 c7 c8 H → ex_g H (a + eO v) = some (cI (2 * v) f) → (∀ j, j < t → f j = nI (2 * v - 1 - j)) → ex_W 10 2 [.ref a, l1, .int (nI t)] [] H X := by
  intro m
  induction m with
  | zero =>
    intro t H f hm hH hK gf hf
    obtain rfl : t = 2 * v := by omega
    have ga := hK.1
    rw [s10_2]
    simp only [s10_0, s10_1, s10_3, s10_4, s10_7, s10_10, s10_11, s10_14, s10_15, s10_16, s10_17, s10_20, s10_21, s10_24, s10_28, s10_31, s10_32, s10_33, s10_34, s10_35, s10_38, s10_39, s10_42, s10_43, s10_44, s10_45, s10_46, s10_49, s10_50, s10_51, s10_54, s10_57, s10_58, s10_61, s10_62, s10_65, s10_68, is_O, opt_s, opt_n, cat_0, cat_i, cat_r, true_and, Nat.zero_le, Nat.reduceAdd, Nat.reduceLeDiff, al_I, as_I, rl_R, ln_I, ln_R, nI_add, pk_mul, g_set, set_set, not_false_eq_true, gf0_0, gf0_1, gf0_2, gf1_0, gf1_1, gf1_2, gf1_3, gf1_4, gf1_5, gf1_6, gf1_7, gf1_8, gf1_9, gf1_10, gf1_11, gf2_0, gf2_1, gf2_2, gf3_0, gf3_1, gf4_0, gf4_1, gf4_2, gf5_0, gf5_1, gf5_2, gf5_3, gf6_0, gf6_1, gf6_2, gf6_3, gf6_4, gf6_5, gf6_6, gf7_0, gf7_1, gf7_2, gf7_3, gf7_4, gf7_5, pf0_0, pf0_1, pf0_2, pf1_0, pf1_1, pf1_2, pf1_3, pf1_4, pf1_5, pf1_6, pf1_7, pf1_8, pf1_9, pf1_10, pf1_11, pf2_0, pf2_1, pf2_2, pf3_0, pf3_1, pf4_0, pf4_1, pf4_2, pf5_0, pf5_1, pf5_2, pf5_3, pf6_0, pf6_1, pf6_2, pf6_3, pf6_4, pf6_5, pf6_6, pf7_0, pf7_1, pf7_2, pf7_3, pf7_4, pf7_5, ga]
    rw [if_pos ((nI_l1 (by omega) (by omega)).mpr (by omega))]
    exact hX H f hH hK gf hf
  | succ m ih =>
    intro t H f hm hH hK gf hf
    have ga := hK.1
    have e1 : nI (2 * v) - nI 1 - nI t = nI (2 * v - 1 - t) := by rw [pk_sub (by omega), pk_sub (by omega)]
    rw [s10_2]
    simp only [s10_0, s10_1, s10_3, s10_4, s10_7, s10_10, s10_11, s10_14, s10_15, s10_16, s10_17, s10_20, s10_21, s10_24, s10_28, s10_31, s10_32, s10_33, s10_34, s10_35, s10_38, s10_39, s10_42, s10_43, s10_44, s10_45, s10_46, s10_49, s10_50, s10_51, s10_54, s10_57, s10_58, s10_61, s10_62, s10_65, s10_68, is_O, opt_s, opt_n, cat_0, cat_i, cat_r, true_and, Nat.zero_le, Nat.reduceAdd, Nat.reduceLeDiff, al_I, as_I, rl_R, ln_I, ln_R, nI_add, pk_mul, g_set, set_set, not_false_eq_true, gf0_0, gf0_1, gf0_2, gf1_0, gf1_1, gf1_2, gf1_3, gf1_4, gf1_5, gf1_6, gf1_7, gf1_8, gf1_9, gf1_10, gf1_11, gf2_0, gf2_1, gf2_2, gf3_0, gf3_1, gf4_0, gf4_1, gf4_2, gf5_0, gf5_1, gf5_2, gf5_3, gf6_0, gf6_1, gf6_2, gf6_3, gf6_4, gf6_5, gf6_6, gf7_0, gf7_1, gf7_2, gf7_3, gf7_4, gf7_5, pf0_0, pf0_1, pf0_2, pf1_0, pf1_1, pf1_2, pf1_3, pf1_4, pf1_5, pf1_6, pf1_7, pf1_8, pf1_9, pf1_10, pf1_11, pf2_0, pf2_1, pf2_2, pf3_0, pf3_1, pf4_0, pf4_1, pf4_2, pf5_0, pf5_1, pf5_2, pf5_3, pf6_0, pf6_1, pf6_2, pf6_3, pf6_4, pf6_5, pf6_6, pf7_0, pf7_1, pf7_2, pf7_3, pf7_4, pf7_5, ga, m_opp ga, e1, gf, xi_n (show t < 2 * v by omega) (show 2 * v < 2147483648 by omega)]
    rw [if_neg (fun z => absurd ((nI_l1 (by omega) (by omega)).mp z) (by omega))]
    have hc2 : chD v a h (ex_set H (a + eO v) (cI (2 * v) (upd f t (nI (2 * v - 1 - t))))) := hH.set (by omega)
    obtain ⟨k1, k2, ⟨fs, k3, k4⟩, _, ⟨f1, k5⟩, f2, k6⟩ := hK
    refine ih (t + 1) _ _ (by omega) hc2 (DK.ch h1 h2 hD hc2 ⟨fs, ?_, k4⟩ ⟨_, g_set⟩ ⟨f1, ?_⟩ ⟨f2, ?_⟩) g_set (fun j hj => ?_)
    · rw [g_ne (by omega)]; exact k3
    · rw [g_ne (by omega)]; exact k5
    · rw [g_ne (by omega)]; exact k6
    · by_cases hc : j = t
      · rw [hc, pk_us]
      · rw [pk_un hc]
        exact hf j (by omega)
theorem m_findHook {i : Nat} (h1 : 1 ≤ v) (h2 : v ≤ 5) (hi1 : 1 ≤ i) (hi : i < v) (hD : DK v a c3 c4 c6 c7 c8 h) (hX : ∀ H, chD v a h H → DK v a c3 c4 c6 c7 c8 H → X (some (.int (nI (tHk v i)))) H) : ex_W 10 0 [.ref a, .int (nI i), oU] [] h X := by
  obtain ⟨f0, g0⟩ := hD.2.2.2.1
  obtain ⟨_, l1, l2⟩ := cLd h1 h2
  have hk := tHk_lt h1 h2 hi
  rw [s10_0, s10_1]
  refine l_fh h1 h2 hD (fun H f hH hK gf hf => ?_) (2 * v) 0 h f0 (by omega) chD.rfl' hD g0 (fun j hj => by omega)
  have ga := hK.1
  have na : ¬ a = a + eO v := by omega
  have e1 : nI (2 * v) - nI 1 - nI i = nI (2 * v - 1 - i) := by rw [pk_sub (by omega), pk_sub (by omega)]
  have e2 : nI (2 * v) - nI 1 - nI (i - 1) = nI (2 * v - 1 - (i - 1)) := by rw [pk_sub (by omega), pk_sub (by omega)]
  simp only [s10_0, s10_1, s10_3, s10_4, s10_7, s10_10, s10_11, s10_14, s10_15, s10_16, s10_17, s10_20, s10_21, s10_24, s10_27, s10_28, s10_31, s10_32, s10_33, s10_34, s10_35, s10_38, s10_39, s10_42, s10_43, s10_44, s10_45, s10_46, s10_49, s10_50, s10_51, s10_54, s10_57, s10_58, s10_61, s10_62, s10_65, s10_68, is_O, opt_s, opt_n, cat_0, cat_i, cat_r, true_and, Nat.zero_le, Nat.reduceAdd, Nat.reduceLeDiff, al_I, as_I, rl_R, ln_I, ln_R, nI_add, pk_mul, g_set, set_set, not_false_eq_true, gf0_0, gf0_1, gf0_2, gf1_0, gf1_1, gf1_2, gf1_3, gf1_4, gf1_5, gf1_6, gf1_7, gf1_8, gf1_9, gf1_10, gf1_11, gf2_0, gf2_1, gf2_2, gf3_0, gf3_1, gf4_0, gf4_1, gf4_2, gf5_0, gf5_1, gf5_2, gf5_3, gf6_0, gf6_1, gf6_2, gf6_3, gf6_4, gf6_5, gf6_6, gf7_0, gf7_1, gf7_2, gf7_3, gf7_4, gf7_5, pf0_0, pf0_1, pf0_2, pf1_0, pf1_1, pf1_2, pf1_3, pf1_4, pf1_5, pf1_6, pf1_7, pf1_8, pf1_9, pf1_10, pf1_11, pf2_0, pf2_1, pf2_2, pf3_0, pf3_1, pf4_0, pf4_1, pf4_2, pf5_0, pf5_1, pf5_2, pf5_3, pf6_0, pf6_1, pf6_2, pf6_3, pf6_4, pf6_5, pf6_6, pf7_0, pf7_1, pf7_2, pf7_3, pf7_4, pf7_5, ga, pk_sub hi1]
  rw [m_join (show i - 1 < 2 * v by omega) (show i < 2 * v by omega) (by omega) gf]
  have ga2 : ∀ c, ex_g (ex_set H (a + eO v) c) a = some (oDg v a c3 c4 c6 c7 c8) := fun c => (g_ne na).trans ga
  simp only [s10_0, s10_1, s10_3, s10_4, s10_7, s10_10, s10_11, s10_14, s10_15, s10_16, s10_17, s10_20, s10_21, s10_24, s10_27, s10_28, s10_31, s10_32, s10_33, s10_34, s10_35, s10_38, s10_39, s10_42, s10_43, s10_44, s10_45, s10_46, s10_49, s10_50, s10_51, s10_54, s10_57, s10_58, s10_61, s10_62, s10_65, s10_68, is_O, opt_s, opt_n, cat_0, cat_i, cat_r, true_and, Nat.zero_le, Nat.reduceAdd, Nat.reduceLeDiff, al_I, as_I, rl_R, ln_I, ln_R, nI_add, pk_mul, g_set, set_set, not_false_eq_true, gf0_0, gf0_1, gf0_2, gf1_0, gf1_1, gf1_2, gf1_3, gf1_4, gf1_5, gf1_6, gf1_7, gf1_8, gf1_9, gf1_10, gf1_11, gf2_0, gf2_1, gf2_2, gf3_0, gf3_1, gf4_0, gf4_1, gf4_2, gf5_0, gf5_1, gf5_2, gf5_3, gf6_0, gf6_1, gf6_2, gf6_3, gf6_4, gf6_5, gf6_6, gf7_0, gf7_1, gf7_2, gf7_3, gf7_4, gf7_5, pf0_0, pf0_1, pf0_2, pf1_0, pf1_1, pf1_2, pf1_3, pf1_4, pf1_5, pf1_6, pf1_7, pf1_8, pf1_9, pf1_10, pf1_11, pf2_0, pf2_1, pf2_2, pf3_0, pf3_1, pf4_0, pf4_1, pf4_2, pf5_0, pf5_1, pf5_2, pf5_3, pf6_0, pf6_1, pf6_2, pf6_3, pf6_4, pf6_5, pf6_6, pf7_0, pf7_1, pf7_2, pf7_3, pf7_4, pf7_5, ga2, pk_sub hi1, m_opp (ga2 _), e1, e2]
  rw [m_join (show 2 * v - 1 - (i - 1) < 2 * v by omega) (show 2 * v - 1 - i < 2 * v by omega) (by omega) g_set]
  have hc2 : ∀ c, chD v a h (ex_set H (a + eO v) c) := fun c => hH.set (by omega)
  have hK2 : ∀ f, DK v a c3 c4 c6 c7 c8 (ex_set H (a + eO v) (cI (2 * v) f)) := fun f => by
    obtain ⟨k1, k2, ⟨fs, k3, k4⟩, _, ⟨f1, k5⟩, f2, k6⟩ := hK
    refine DK.ch h1 h2 hD (hc2 _) ⟨fs, ?_, k4⟩ ⟨_, g_set⟩ ⟨f1, ?_⟩ ⟨f2, ?_⟩
    · rw [g_ne (by omega)]; exact k3
    · rw [g_ne (by omega)]; exact k5
    · rw [g_ne (by omega)]; exact k6
  simp only [s10_0, s10_1, s10_3, s10_4, s10_7, s10_10, s10_11, s10_14, s10_15, s10_16, s10_17, s10_20, s10_21, s10_24, s10_27, s10_28, s10_31, s10_32, s10_33, s10_34, s10_35, s10_38, s10_39, s10_42, s10_43, s10_44, s10_45, s10_46, s10_49, s10_50, s10_51, s10_54, s10_57, s10_58, s10_61, s10_62, s10_65, s10_68, is_O, opt_s, opt_n, cat_0, cat_i, cat_r, true_and, Nat.zero_le, Nat.reduceAdd, Nat.reduceLeDiff, al_I, as_I, rl_R, ln_I, ln_R, nI_add, pk_mul, g_set, set_set, not_false_eq_true, gf0_0, gf0_1, gf0_2, gf1_0, gf1_1, gf1_2, gf1_3, gf1_4, gf1_5, gf1_6, gf1_7, gf1_8, gf1_9, gf1_10, gf1_11, gf2_0, gf2_1, gf2_2, gf3_0, gf3_1, gf4_0, gf4_1, gf4_2, gf5_0, gf5_1, gf5_2, gf5_3, gf6_0, gf6_1, gf6_2, gf6_3, gf6_4, gf6_5, gf6_6, gf7_0, gf7_1, gf7_2, gf7_3, gf7_4, gf7_5, pf0_0, pf0_1, pf0_2, pf1_0, pf1_1, pf1_2, pf1_3, pf1_4, pf1_5, pf1_6, pf1_7, pf1_8, pf1_9, pf1_10, pf1_11, pf2_0, pf2_1, pf2_2, pf3_0, pf3_1, pf4_0, pf4_1, pf4_2, pf5_0, pf5_1, pf5_2, pf5_3, pf6_0, pf6_1, pf6_2, pf6_3, pf6_4, pf6_5, pf6_6, pf7_0, pf7_1, pf7_2, pf7_3, pf7_4, pf7_5, ga2]
  obtain ⟨fc', w2, u1, u2, u3, u4⟩ := (hK2 (upd (upd (upd (upd f (i - 1) (nI i)) i (nI (i - 1))) (2 * v - 1 - (i - 1)) (nI (2 * v - 1 - i))) (2 * v - 1 - i) (nI (2 * v - 1 - (i - 1))))).txt h1 h2
  simp only [u1, is_O, opt_s, opt_n, cat_0, cat_i, cat_r, true_and, Nat.zero_le, Nat.reduceAdd, Nat.reduceLeDiff, al_I, as_I, rl_R, ln_I, ln_R, nI_add, pk_mul, g_set, set_set, not_false_eq_true, gf0_0, gf0_1, gf0_2, gf1_0, gf1_1, gf1_2, gf1_3, gf1_4, gf1_5, gf1_6, gf1_7, gf1_8, gf1_9, gf1_10, gf1_11, gf2_0, gf2_1, gf2_2, gf3_0, gf3_1, gf4_0, gf4_1, gf4_2, gf5_0, gf5_1, gf5_2, gf5_3, gf6_0, gf6_1, gf6_2, gf6_3, gf6_4, gf6_5, gf6_6, gf7_0, gf7_1, gf7_2, gf7_3, gf7_4, gf7_5, pf0_0, pf0_1, pf0_2, pf1_0, pf1_1, pf1_2, pf1_3, pf1_4, pf1_5, pf1_6, pf1_7, pf1_8, pf1_9, pf1_10, pf1_11, pf2_0, pf2_1, pf2_2, pf3_0, pf3_1, pf4_0, pf4_1, pf4_2, pf5_0, pf5_1, pf5_2, pf5_3, pf6_0, pf6_1, pf6_2, pf6_3, pf6_4, pf6_5, pf6_6, pf7_0, pf7_1, pf7_2, pf7_3, pf7_4, pf7_5]
  refine m_findRow h1 h2 hk u1 u2 u3 g_set (fun j hj => ?_) ?_
  · rw [← tHkR h1 h2 hi1 hi hj]
    unfold hkR
    by_cases k1 : j = 2 * v - 1 - i
    · rw [if_pos k1, k1, pk_us]
    · rw [if_neg k1, pk_un k1]
      by_cases k2 : j = 2 * v - 1 - (i - 1)
      · rw [if_pos k2, k2, pk_us]
      · rw [if_neg k2, pk_un k2]
        by_cases k3 : j = i
        · rw [if_pos k3, k3, pk_us]
        · rw [if_neg k3, pk_un k3]
          by_cases k4 : j = i - 1
          · rw [if_pos k4, k4, pk_us]
          · rw [if_neg k4, pk_un k4]
            exact hf j hj
  · simp only [s10_0, s10_1, s10_3, s10_4, s10_7, s10_10, s10_11, s10_14, s10_15, s10_16, s10_17, s10_20, s10_21, s10_24, s10_27, s10_28, s10_31, s10_32, s10_33, s10_34, s10_35, s10_38, s10_39, s10_42, s10_43, s10_44, s10_45, s10_46, s10_49, s10_50, s10_51, s10_54, s10_57, s10_58, s10_61, s10_62, s10_65, s10_68, is_O, opt_s, opt_n, cat_0, cat_i, cat_r, true_and, Nat.zero_le, Nat.reduceAdd, Nat.reduceLeDiff, al_I, as_I, rl_R, ln_I, ln_R, nI_add, pk_mul, g_set, set_set, not_false_eq_true, gf0_0, gf0_1, gf0_2, gf1_0, gf1_1, gf1_2, gf1_3, gf1_4, gf1_5, gf1_6, gf1_7, gf1_8, gf1_9, gf1_10, gf1_11, gf2_0, gf2_1, gf2_2, gf3_0, gf3_1, gf4_0, gf4_1, gf4_2, gf5_0, gf5_1, gf5_2, gf5_3, gf6_0, gf6_1, gf6_2, gf6_3, gf6_4, gf6_5, gf6_6, gf7_0, gf7_1, gf7_2, gf7_3, gf7_4, gf7_5, pf0_0, pf0_1, pf0_2, pf1_0, pf1_1, pf1_2, pf1_3, pf1_4, pf1_5, pf1_6, pf1_7, pf1_8, pf1_9, pf1_10, pf1_11, pf2_0, pf2_1, pf2_2, pf3_0, pf3_1, pf4_0, pf4_1, pf4_2, pf5_0, pf5_1, pf5_2, pf5_3, pf6_0, pf6_1, pf6_2, pf6_3, pf6_4, pf6_5, pf6_6, pf7_0, pf7_1, pf7_2, pf7_3, pf7_4, pf7_5]
    exact hX _ (hc2 _) (hK2 _)
/-- the ways' rows, so far as they are laid -/
def wS (v w : Nat) (f5 f6 f7 f8 : Nat → Int32) : Prop := (∀ j, j < w → f8 j = nI (tWv v j)) ∧ (∀ d, d < tC v → f5 d = if tWp v d < w then nI (tStep v d) else -1) ∧ (∀ d, d < tC v → ¬ d = 0 → tWp v d < w → f6 d = nI (tBf v d) ∧ f7 d = nI (tLh v d))
def wC (v a : Nat) (f5 f6 f7 f8 : Nat → Int32) (h : ex_Hp) : Prop := ex_g h (a + eO v + 5) = some (cI (tC v) f5) ∧ ex_g h (a + eO v + 6) = some (cI (tC v) f6) ∧ ex_g h (a + eO v + 7) = some (cI (tC v) f7) ∧ ex_g h (a + eO v + 8) = some (cI (tC v) f8)
def chW (v a : Nat) (h H : ex_Hp) : Prop := H.1 = h.1 ∧ H.2.1 = h.2.1 ∧ ∀ q, q < a + eO v ∨ q = a + eO v + 4 ∨ a + eO v + 9 ≤ q → ex_g H q = ex_g h q
def hkC (v a : Nat) (h : ex_Hp) : Prop := ∃ f, ex_g h (a + eO v + 4) = some (cI v f) ∧ ∀ i, 1 ≤ i → i < v → f i = nI (tHk v i)
abbrev DKw (v a : Nat) (c3 : Value) (h : ex_Hp) : Prop := DK v a c3 (.ref (a + eO v + 4)) (.ref (a + eO v + 5)) (.ref (a + eO v + 6)) (.ref (a + eO v + 7)) h
theorem chW.D (p : chW v a h H) {K : ex_Hp} (q : chD v a H K) : chW v a h K := ⟨q.1.trans p.1, q.2.1.trans p.2.1, fun z hz => (q.2.2 z (by omega)).trans (p.2.2 z hz)⟩
theorem chW.set {k : Nat} {c : ex_AC} (p : chW v a h H) (hk : a + eO v + 5 ≤ k ∧ k < a + eO v + 9) : chW v a h (ex_set H k c) := ⟨p.1, p.2.1, fun z hz => by rw [g_ne (by omega)]; exact p.2.2 z hz⟩
theorem wC.D {f5 f6 f7 f8 : Nat → Int32} {K : ex_Hp} (p : wC v a f5 f6 f7 f8 H) (q : chD v a H K) : wC v a f5 f6 f7 f8 K := ⟨(q.2.2 _ (by omega)).trans p.1, (q.2.2 _ (by omega)).trans p.2.1, (q.2.2 _ (by omega)).trans p.2.2.1, (q.2.2 _ (by omega)).trans p.2.2.2⟩
theorem DK.set {k : Nat} {c : ex_AC} (h1 : 1 ≤ v) (h2 : v ≤ 5) (hD : DK v a c3 c4 c6 c7 c8 h) (hk : k < a ∨ a + eO v + 4 ≤ k) : DK v a c3 c4 c6 c7 c8 (ex_set h k c) := hD.fr h1 h2 (fun q q1 q2 => g_ne (by omega))
theorem l_w48 {k : Nat} (h1 : 1 ≤ v) (h2 : v ≤ 5) (hk : k < tC v) (hh : hkC v a h) (hX : ∀ H f5 f6 f7 f8 l5 l6, chW v a h H → DKw v a c3 H → wC v a f5 f6 f7 f8 H → wS v (tLw v k v) f5 f6 f7 f8 → ex_W 11 140 [.ref a, .ref (a + eO v + 8), .int (nI (tLw v k v)), .int (nI k), .int (nI (tWv v k)), l5, l6] [] H X) : ∀ (n i : Nat) (l6 : Value) (H : ex_Hp) (f5 f6 f7 f8 : Nat → Int32), n + i = v → 1 ≤ i → k < tLw v k i → chW v a h H → DKw v a c3 H → wC v a f5 f6 f7 f8 H → wS v (tLw v k i) f5 f6 f7 f8 → ex_W 11 48 [.ref a, .ref (a + eO v + 8), .int (nI (tLw v k i)), .int (nI k), .int (nI (tWv v k)), .int (nI i), l6] [] H X := by
  have hC := tC_le h1 h2
  obtain ⟨_, l1, l2⟩ := cLd h1 h2
  intro n
  induction n with
  | zero =>
    intro i l6 H f5 f6 f7 f8 hn hi1 hkw hH hK hc hw
    obtain rfl : i = v := by omega
    have ga := hK.1
    rw [s11_48]
    simp only [s11_0, s11_1, s11_4, s11_7, s11_9, s11_10, s11_11, s11_12, s11_13, s11_16, s11_17, s11_20, s11_21, s11_24, s11_25, s11_26, s11_27, s11_28, s11_29, s11_30, s11_31, s11_34, s11_37, s11_40, s11_41, s11_42, s11_43, s11_45, s11_46, s11_50, s11_51, s11_54, s11_57, s11_58, s11_60, s11_61, s11_64, s11_66, s11_67, s11_70, s11_72, s11_73, s11_75, s11_76, s11_79, s11_81, s11_82, s11_83, s11_86, s11_87, s11_88, s11_89, s11_92, s11_93, s11_96, s11_98, s11_99, s11_102, s11_104, s11_105, s11_106, s11_107, s11_108, s11_109, s11_112, s11_114, s11_116, s11_117, s11_118, s11_121, s11_123, s11_125, s11_126, s11_127, s11_128, s11_130, s11_131, s11_134, s11_137, s11_143, s11_146, is_O, opt_s, opt_n, cat_0, cat_i, cat_r, true_and, Nat.zero_le, Nat.reduceAdd, Nat.reduceLeDiff, al_I, as_I, rl_R, ln_I, ln_R, nI_add, pk_mul, g_set, set_set, not_false_eq_true, gf0_0, gf0_1, gf0_2, gf1_0, gf1_1, gf1_2, gf1_3, gf1_4, gf1_5, gf1_6, gf1_7, gf1_8, gf1_9, gf1_10, gf1_11, gf2_0, gf2_1, gf2_2, gf3_0, gf3_1, gf4_0, gf4_1, gf4_2, gf5_0, gf5_1, gf5_2, gf5_3, gf6_0, gf6_1, gf6_2, gf6_3, gf6_4, gf6_5, gf6_6, gf7_0, gf7_1, gf7_2, gf7_3, gf7_4, gf7_5, pf0_0, pf0_1, pf0_2, pf1_0, pf1_1, pf1_2, pf1_3, pf1_4, pf1_5, pf1_6, pf1_7, pf1_8, pf1_9, pf1_10, pf1_11, pf2_0, pf2_1, pf2_2, pf3_0, pf3_1, pf4_0, pf4_1, pf4_2, pf5_0, pf5_1, pf5_2, pf5_3, pf6_0, pf6_1, pf6_2, pf6_3, pf6_4, pf6_5, pf6_6, pf7_0, pf7_1, pf7_2, pf7_3, pf7_4, pf7_5, ga]
    rw [if_pos ((nI_l1 (by omega) (by omega)).mpr (by omega))]
    exact hX H f5 f6 f7 f8 _ _ hH hK hc hw
  | succ n ih =>
    intro i l6 H f5 f6 f7 f8 hn hi1 hkw hH hK hc hw
    have ga := hK.1
    have hki : i < v := by omega
    have hh2 := tHk_lt h1 h2 hki
    have hwk := (tTu_lt h1 h2 hk).2.2.2.2.1
    have hp := (tP_lt h1 h2 hwk hh2).1
    have hq := (tP_lt h1 h2 hwk hh2).2
    obtain ⟨fh, hf1, hf2⟩ := hh
    have gh : ex_g H (a + eO v + 4) = some (cI v fh) := (hH.2.2 _ (by omega)).trans hf1
    rw [s11_48]
    simp only [s11_0, s11_1, s11_4, s11_7, s11_9, s11_10, s11_11, s11_12, s11_13, s11_16, s11_17, s11_20, s11_21, s11_24, s11_25, s11_26, s11_27, s11_28, s11_29, s11_30, s11_31, s11_34, s11_37, s11_40, s11_41, s11_42, s11_43, s11_45, s11_46, s11_50, s11_51, s11_54, s11_57, s11_58, s11_60, s11_61, s11_64, s11_66, s11_67, s11_70, s11_72, s11_73, s11_75, s11_76, s11_79, s11_81, s11_82, s11_83, s11_86, s11_87, s11_88, s11_89, s11_92, s11_93, s11_96, s11_98, s11_99, s11_102, s11_104, s11_105, s11_106, s11_107, s11_108, s11_109, s11_112, s11_114, s11_116, s11_117, s11_118, s11_121, s11_123, s11_125, s11_126, s11_127, s11_128, s11_130, s11_131, s11_137, s11_143, s11_146, is_O, opt_s, opt_n, cat_0, cat_i, cat_r, true_and, Nat.zero_le, Nat.reduceAdd, Nat.reduceLeDiff, al_I, as_I, rl_R, ln_I, ln_R, nI_add, pk_mul, g_set, set_set, not_false_eq_true, gf0_0, gf0_1, gf0_2, gf1_0, gf1_1, gf1_2, gf1_3, gf1_4, gf1_5, gf1_6, gf1_7, gf1_8, gf1_9, gf1_10, gf1_11, gf2_0, gf2_1, gf2_2, gf3_0, gf3_1, gf4_0, gf4_1, gf4_2, gf5_0, gf5_1, gf5_2, gf5_3, gf6_0, gf6_1, gf6_2, gf6_3, gf6_4, gf6_5, gf6_6, gf7_0, gf7_1, gf7_2, gf7_3, gf7_4, gf7_5, pf0_0, pf0_1, pf0_2, pf1_0, pf1_1, pf1_2, pf1_3, pf1_4, pf1_5, pf1_6, pf1_7, pf1_8, pf1_9, pf1_10, pf1_11, pf2_0, pf2_1, pf2_2, pf3_0, pf3_1, pf4_0, pf4_1, pf4_2, pf5_0, pf5_1, pf5_2, pf5_3, pf6_0, pf6_1, pf6_2, pf6_3, pf6_4, pf6_5, pf6_6, pf7_0, pf7_1, pf7_2, pf7_3, pf7_4, pf7_5, ga, gh, xi_n hki (show v < 2147483648 by omega), hf2 i hi1 hki]
    rw [if_neg (fun z => absurd ((nI_l1 (by omega) (by omega)).mp z) (by omega))]
    refine m_packed h1 h2 hwk hh2 hK (fun G hG hKG => ?_)
    have e : nI (8 * tP v (tWv v k) (tHk v i) + tQ v (tWv v k) (tHk v i)) / nI 8 = nI (tP v (tWv v k) (tHk v i)) := by rw [pk_div (by have e : (2:Nat)^31 = 2147483648 := rfl; omega) (by decide) (by decide), show (8 * tP v (tWv v k) (tHk v i) + tQ v (tWv v k) (tHk v i)) / 8 = tP v (tWv v k) (tHk v i) by omega]
    have hGc := hc.D hG
    have hHG := hH.D hG
    obtain ⟨g5, g6, g7, g8⟩ := hGc
    have ga2 := hKG.1
    have h15 := hw.2.1 _ hp
    have hkw2 := hw.2.1 _ hwk
    rw [if_pos (by rw [(tLw1 h1 h2 hk).2.2.2.1]; exact hkw)] at hkw2
    have hst := (tTu_lt h1 h2 hp).2.2.2.2.2
    have hs := tLw2 h1 h2 hk hi1 hki
    simp only [s11_0, s11_1, s11_4, s11_7, s11_9, s11_10, s11_11, s11_12, s11_13, s11_16, s11_17, s11_20, s11_21, s11_24, s11_25, s11_26, s11_27, s11_28, s11_29, s11_30, s11_31, s11_34, s11_37, s11_40, s11_41, s11_42, s11_43, s11_45, s11_46, s11_50, s11_51, s11_54, s11_57, s11_58, s11_60, s11_61, s11_64, s11_66, s11_67, s11_70, s11_72, s11_73, s11_75, s11_76, s11_79, s11_81, s11_82, s11_83, s11_86, s11_87, s11_88, s11_89, s11_92, s11_93, s11_96, s11_98, s11_99, s11_102, s11_104, s11_105, s11_106, s11_107, s11_108, s11_109, s11_112, s11_114, s11_116, s11_117, s11_118, s11_121, s11_123, s11_125, s11_126, s11_127, s11_128, s11_130, s11_131, s11_137, s11_143, s11_146, is_O, opt_s, opt_n, cat_0, cat_i, cat_r, true_and, Nat.zero_le, Nat.reduceAdd, Nat.reduceLeDiff, al_I, as_I, rl_R, ln_I, ln_R, nI_add, pk_mul, g_set, set_set, not_false_eq_true, gf0_0, gf0_1, gf0_2, gf1_0, gf1_1, gf1_2, gf1_3, gf1_4, gf1_5, gf1_6, gf1_7, gf1_8, gf1_9, gf1_10, gf1_11, gf2_0, gf2_1, gf2_2, gf3_0, gf3_1, gf4_0, gf4_1, gf4_2, gf5_0, gf5_1, gf5_2, gf5_3, gf6_0, gf6_1, gf6_2, gf6_3, gf6_4, gf6_5, gf6_6, gf7_0, gf7_1, gf7_2, gf7_3, gf7_4, gf7_5, pf0_0, pf0_1, pf0_2, pf1_0, pf1_1, pf1_2, pf1_3, pf1_4, pf1_5, pf1_6, pf1_7, pf1_8, pf1_9, pf1_10, pf1_11, pf2_0, pf2_1, pf2_2, pf3_0, pf3_1, pf4_0, pf4_1, pf4_2, pf5_0, pf5_1, pf5_2, pf5_3, pf6_0, pf6_1, pf6_2, pf6_3, pf6_4, pf6_5, pf6_6, pf7_0, pf7_1, pf7_2, pf7_3, pf7_4, pf7_5, z8, e, ga2, g5, g8, xi_n hp (show tC v < 2147483648 by omega), h15]
    by_cases hcc : tWp v (tP v (tWv v k) (tHk v i)) < tLw v k i
    · rw [if_pos hcc] at hs
      rw [if_pos hcc, if_pos (m1_ne (by omega))]
      simp only [s11_134, s11_137, nI_add]
      rw [← hs]
      rw [← hs] at hkw hw
      exact ih (i + 1) _ G f5 f6 f7 f8 (by omega) (by omega) hkw hHG hKG ⟨g5, g6, g7, g8⟩ hw
    · rw [if_neg hcc] at hs
      obtain ⟨q1, q2, q3, q4, q5, q6, q7⟩ := hs
      rw [if_neg hcc, if_neg (fun z => z rfl), if_neg (fun z => absurd ((nI_l1 (by omega) (by omega)).mp z) (by omega))]
      have n5a : ¬ a = a + eO v + 5 := by omega
      have n6a : ¬ a = a + eO v + 6 := by omega
      have n7a : ¬ a = a + eO v + 7 := by omega
      have n65 : ¬ a + eO v + 6 = a + eO v + 5 := by omega
      have n75 : ¬ a + eO v + 7 = a + eO v + 5 := by omega
      have n76 : ¬ a + eO v + 7 = a + eO v + 6 := by omega
      have n85 : ¬ a + eO v + 8 = a + eO v + 5 := by omega
      have n86 : ¬ a + eO v + 8 = a + eO v + 6 := by omega
      have n87 : ¬ a + eO v + 8 = a + eO v + 7 := by omega
      simp only [s11_0, s11_1, s11_4, s11_7, s11_9, s11_10, s11_11, s11_12, s11_13, s11_16, s11_17, s11_20, s11_21, s11_24, s11_25, s11_26, s11_27, s11_28, s11_29, s11_30, s11_31, s11_34, s11_37, s11_40, s11_41, s11_42, s11_43, s11_45, s11_46, s11_50, s11_51, s11_54, s11_57, s11_58, s11_60, s11_61, s11_64, s11_66, s11_67, s11_70, s11_72, s11_73, s11_75, s11_76, s11_79, s11_81, s11_82, s11_83, s11_86, s11_87, s11_88, s11_89, s11_92, s11_93, s11_96, s11_98, s11_99, s11_102, s11_104, s11_105, s11_106, s11_107, s11_108, s11_109, s11_112, s11_114, s11_116, s11_117, s11_118, s11_121, s11_123, s11_125, s11_126, s11_127, s11_128, s11_130, s11_131, s11_137, s11_143, s11_146, xi_n hwk (show tC v < 2147483648 by omega), hkw2, is_O, opt_s, opt_n, cat_0, cat_i, cat_r, true_and, Nat.zero_le, Nat.reduceAdd, Nat.reduceLeDiff, al_I, as_I, rl_R, ln_I, ln_R, nI_add, pk_mul, g_set, set_set, not_false_eq_true, gf0_0, gf0_1, gf0_2, gf1_0, gf1_1, gf1_2, gf1_3, gf1_4, gf1_5, gf1_6, gf1_7, gf1_8, gf1_9, gf1_10, gf1_11, gf2_0, gf2_1, gf2_2, gf3_0, gf3_1, gf4_0, gf4_1, gf4_2, gf5_0, gf5_1, gf5_2, gf5_3, gf6_0, gf6_1, gf6_2, gf6_3, gf6_4, gf6_5, gf6_6, gf7_0, gf7_1, gf7_2, gf7_3, gf7_4, gf7_5, pf0_0, pf0_1, pf0_2, pf1_0, pf1_1, pf1_2, pf1_3, pf1_4, pf1_5, pf1_6, pf1_7, pf1_8, pf1_9, pf1_10, pf1_11, pf2_0, pf2_1, pf2_2, pf3_0, pf3_1, pf4_0, pf4_1, pf4_2, pf5_0, pf5_1, pf5_2, pf5_3, pf6_0, pf6_1, pf6_2, pf6_3, pf6_4, pf6_5, pf6_6, pf7_0, pf7_1, pf7_2, pf7_3, pf7_4, pf7_5, xi_n hp (show tC v < 2147483648 by omega), xi_n q1 (show tC v < 2147483648 by omega), g_ne n5a, g_ne n6a, g_ne n7a, g_ne n65, g_ne n75, g_ne n76, g_ne n85, g_ne n86, g_ne n87, ga2, g5, g6, g7, g8, s11_134, s11_137]
      rw [← q2]
      refine ih (i + 1) _ _ (upd f5 (tP v (tWv v k) (tHk v i)) (nI (tStep v (tWv v k) + 1))) (upd f6 (tP v (tWv v k) (tHk v i)) (nI (tWv v k))) (upd f7 (tP v (tWv v k) (tHk v i)) (nI i)) (upd f8 (tLw v k i) (nI (tP v (tWv v k) (tHk v i)))) (by omega) (by omega) (by omega) ((((hHG.set (by omega)).set (by omega)).set (by omega)).set (by omega)) ((((hKG.set h1 h2 (by omega)).set h1 h2 (by omega)).set h1 h2 (by omega)).set h1 h2 (by omega)) ⟨?_, ?_, ?_, g_set⟩ ⟨fun j hj => ?_, fun d' hd => ?_, fun d' hd hd0 hdw => ?_⟩
      · rw [g_ne (by omega), g_ne (by omega), g_ne (by omega), g_set]
      · rw [g_ne (by omega), g_ne (by omega), g_set]
      · rw [g_ne (by omega), g_set]
      · by_cases hj2 : j = tLw v k i
        · rw [hj2, pk_us, q4]
        · rw [pk_un hj2]
          exact hw.1 j (by omega)
      · by_cases he2 : d' = tP v (tWv v k) (tHk v i)
        · rw [he2, pk_us, q3, if_pos (by omega), q5]
        · rw [pk_un he2, hw.2.1 d' hd]
          have : ¬ tWp v d' = tLw v k i := fun z => he2 (tWp_inj h1 h2 hd hp (by rw [z, q3]))
          by_cases hc2 : tWp v d' < tLw v k i
          · rw [if_pos hc2, if_pos (by omega)]
          · rw [if_neg hc2, if_neg (by omega)]
      · by_cases he2 : d' = tP v (tWv v k) (tHk v i)
        · rw [he2, pk_us, pk_us, q6, q7]
          exact ⟨rfl, rfl⟩
        · have : ¬ tWp v d' = tLw v k i := fun z => he2 (tWp_inj h1 h2 hd hp (by rw [z, q3]))
          rw [pk_un he2, pk_un he2]
          exact hw.2.2 d' hd hd0 (by omega)
end C7
