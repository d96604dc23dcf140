/-! THE CLASS AS A WHOLE: what its calls read; its tests of arguments -/
def cpL (n : Nat) : Nat → Nat → Bool
  | 0, _ => true
  | m + 1, k => if n < k * k then true else if n % k = 0 then false else cpL n m (k + 1)
theorem cpL_k : allN 102 (fun n => decide (n < 2) || decide (cpL n 10 2 = prT n)) = true := by decide +kernel
section C28
variable {h H : ex_Hp} {X : Option Value → ex_Hp → Prop} {ρ ι : Nat → Option Nat} {N v p lo a : Nat} {F : Nat → Int32} {S : Nat → Nat → Nat} {I : Nat → Option cSt}
theorem CX.get (hC : CX ρ ι N F v p lo S I h) : ∃ (a : Nat) (fc : Nat → Int32) (w' : Value) (fp : Nat → Int32), ρ v = some a ∧ DG v a h ∧ (a = 5 ∧ a + eO v + 9 = 42 ∨ 86 ≤ a) ∧ ex_g h 1 = some (cO 7 [.ref 2, .ref 4, .ref 42, .ref 51, .ref 52, .ref 56]) ∧ ex_g h 42 = some (cO 4 [.ref a, .ref 43, .ref 45]) ∧ ex_g h 43 = some (oNum (nI p) (nI lo) 44) ∧ ex_g h 44 = some (cI 6 fp) ∧ (∀ j, j < 6 → fp j = nI (lo ^ j % p)) ∧ ex_g h 45 = some (cR 2 5 (srow 42)) ∧ ex_g h a = some (oDg v a (.ref (a + 7 + tC v)) (.ref (a + eO v + 4)) (.ref (a + eO v + 5)) (.ref (a + eO v + 6)) (.ref (a + eO v + 7))) ∧ ex_g h (a + 1) = some (cO 6 [.int (nI (tC v)), .ref (a + 1 + 5), .ref (a + 1 + 4), .int (nI (2 * v)), .int (nI 0), .int (nI (bs 0)), w']) ∧ ex_g h (a + 1 + 4) = some (cI (tC v) fc) ∧ (∀ i, i < tC v → fc i = nI (tCode v i)) ∧ ex_g h (a + 1 + 5) = some (cR 2 (tC v) (fun i => if i < tC v then some (a + 1 + 6 + i) else none)) ∧ ex_g h 2 = some (oPd 3 N) ∧ ex_g h 3 = some (cI 24 F) := by
  obtain ⟨c1, c2, ⟨a, c3, b1, b2, ⟨s1, s2, ⟨fp, s3, s4⟩, s5, s6⟩, b4, _⟩, c4⟩ := hC
  obtain ⟨hD, hp, hl, hl2⟩ := c4.sh (v := v) c2.1.1 c2.1.2 c3
  obtain ⟨fc, w', t1, t2, t3, t4⟩ := hD.1.txt (v := v) c2.1.1 c2.1.2
  exact ⟨a, fc, w', fp, c3, hD, hl2, c4.2.1, s1, s2, s3, s4, s5, hD.1.1, t1, t2, t3, t4, b1, b2⟩
theorem CX.sum {i : Nat} (hC : CX ρ ι N F v p lo S I h) (hi : i < 5) : ∃ f, ex_g h (46 + i) = some (cI 42 f) ∧ ∀ d, d < 42 → f d = nI (S i d) := by
  obtain ⟨c1, c2, ⟨a, c3, b1, b2, ⟨s1, s2, ⟨fp, s3, s4⟩, s5, s6⟩, b4, _⟩, c4⟩ := hC
  exact s6 i hi
theorem sr42 {i : Nat} (hi : i < 5) : va_rf (srow 42 i) = .ref (46 + i) := srow_i hi
theorem bool_i {c : Prop} [Decidable c] {Y : Prop} : (((if c then nI 1 else nI 0) = nI 0 ∨ (if c then nI 1 else nI 0) = nI 1) ∧ Y) ↔ Y := by
  constructor
  · exact fun z => z.2
  · refine fun z => ⟨?_, z⟩
    split
    · exact Or.inr rfl
    · exact Or.inl rfl
theorem m_cD {x : Int32} (hC : CX ρ ι N F v p lo S I h) : ex_W 87 0 [.ref 1, .int x] [] h X ↔ X (some (.int (if isW 0 (tC v - 1) x then nI 1 else nI 0))) h := by
  obtain ⟨a, fc, w', fp, ha, hD, hpl, g1, g42, g43, g44, hfp, g45, ga, ga1, ga4, hfc, ga5, gp, gq⟩ := hC.get
  have hTc := tC_le hC.2.1.1.1 hC.2.1.1.2
  simp only [s87_0, s87_1, s87_2, s87_3, s87_6, s87_9, s87_12, s87_15, s87_16, s87_17, s87_20, is_O, opt_s, opt_n, cat_0, cat_i, cat_r, true_and, Nat.zero_le, Nat.reduceAdd, Nat.reduceLeDiff, al_I, as_I, rl_R, ln_I, ln_R, nI_add, pk_mul, g_set, set_set, not_false_eq_true, gf0_0, gf0_1, gf0_2, gf1_0, gf1_1, gf1_2, gf1_3, gf1_4, gf1_5, gf1_6, gf1_7, gf1_8, gf1_9, gf1_10, gf1_11, gf2_0, gf2_1, gf2_2, gf3_0, gf3_1, gf4_0, gf4_1, gf4_2, gf5_0, gf5_1, gf5_2, gf5_3, gf6_0, gf6_1, gf6_2, gf6_3, gf6_4, gf6_5, gf6_6, gf7_0, gf7_1, gf7_2, gf7_3, gf7_4, gf7_5, pf0_0, pf0_1, pf0_2, pf1_0, pf1_1, pf1_2, pf1_3, pf1_4, pf1_5, pf1_6, pf1_7, pf1_8, pf1_9, pf1_10, pf1_11, pf2_0, pf2_1, pf2_2, pf3_0, pf3_1, pf4_0, pf4_1, pf4_2, pf5_0, pf5_1, pf5_2, pf5_3, pf6_0, pf6_1, pf6_2, pf6_3, pf6_4, pf6_5, pf6_6, pf7_0, pf7_1, pf7_2, pf7_3, pf7_4, pf7_5, g1, g42, ga, ga1, pk_sub hTc.1, m_inW]
  exact bool_i
theorem m_cS {x : Int32} {o : Nat} : ex_W 88 0 [.ref o, .int x] [] h X ↔ X (some (.int (if isW 0 4 x then nI 1 else nI 0))) h := by
  simp only [s88_0, s88_1, s88_2, s88_3, s88_6, is_O, opt_s, opt_n, cat_0, cat_i, cat_r, true_and, Nat.zero_le, Nat.reduceAdd, Nat.reduceLeDiff, al_I, as_I, rl_R, ln_I, ln_R, nI_add, pk_mul, g_set, set_set, not_false_eq_true, gf0_0, gf0_1, gf0_2, gf1_0, gf1_1, gf1_2, gf1_3, gf1_4, gf1_5, gf1_6, gf1_7, gf1_8, gf1_9, gf1_10, gf1_11, gf2_0, gf2_1, gf2_2, gf3_0, gf3_1, gf4_0, gf4_1, gf4_2, gf5_0, gf5_1, gf5_2, gf5_3, gf6_0, gf6_1, gf6_2, gf6_3, gf6_4, gf6_5, gf6_6, gf7_0, gf7_1, gf7_2, gf7_3, gf7_4, gf7_5, pf0_0, pf0_1, pf0_2, pf1_0, pf1_1, pf1_2, pf1_3, pf1_4, pf1_5, pf1_6, pf1_7, pf1_8, pf1_9, pf1_10, pf1_11, pf2_0, pf2_1, pf2_2, pf3_0, pf3_1, pf4_0, pf4_1, pf4_2, pf5_0, pf5_1, pf5_2, pf5_3, pf6_0, pf6_1, pf6_2, pf6_3, pf6_4, pf6_5, pf6_6, pf7_0, pf7_1, pf7_2, pf7_3, pf7_4, pf7_5, m_inW]
  exact bool_i
theorem m_cN {x : Int32} (hC : CX ρ ι N F v p lo S I h) : ex_W 89 0 [.ref 1, .int x] [] h X ↔ X (some (.int (if isW 0 (p - 1) x then nI 1 else nI 0))) h := by
  obtain ⟨a, fc, w', fp, ha, hD, hpl, g1, g42, g43, g44, hfp, g45, ga, ga1, ga4, hfc, ga5, gp, gq⟩ := hC.get
  have hp := hC.2.1.2.1.1
  try dsimp only at hp
  simp only [s89_0, s89_1, s89_2, s89_3, s89_6, s89_9, s89_12, s89_13, s89_14, s89_17, is_O, opt_s, opt_n, cat_0, cat_i, cat_r, true_and, Nat.zero_le, Nat.reduceAdd, Nat.reduceLeDiff, al_I, as_I, rl_R, ln_I, ln_R, nI_add, pk_mul, g_set, set_set, not_false_eq_true, gf0_0, gf0_1, gf0_2, gf1_0, gf1_1, gf1_2, gf1_3, gf1_4, gf1_5, gf1_6, gf1_7, gf1_8, gf1_9, gf1_10, gf1_11, gf2_0, gf2_1, gf2_2, gf3_0, gf3_1, gf4_0, gf4_1, gf4_2, gf5_0, gf5_1, gf5_2, gf5_3, gf6_0, gf6_1, gf6_2, gf6_3, gf6_4, gf6_5, gf6_6, gf7_0, gf7_1, gf7_2, gf7_3, gf7_4, gf7_5, pf0_0, pf0_1, pf0_2, pf1_0, pf1_1, pf1_2, pf1_3, pf1_4, pf1_5, pf1_6, pf1_7, pf1_8, pf1_9, pf1_10, pf1_11, pf2_0, pf2_1, pf2_2, pf3_0, pf3_1, pf4_0, pf4_1, pf4_2, pf5_0, pf5_1, pf5_2, pf5_3, pf6_0, pf6_1, pf6_2, pf6_3, pf6_4, pf6_5, pf6_6, pf7_0, pf7_1, pf7_2, pf7_3, pf7_4, pf7_5, g1, g42, g43, pk_sub (show 1 ≤ p by omega), m_inW]
  exact bool_i
theorem m_cH {x : Int32} (hC : CX ρ ι N F v p lo S I h) (hX : X (some (.int (if isC v x then nI 1 else nI 0))) h) : ex_W 90 0 [.ref 1, .int x] [] h X := by
  obtain ⟨a, fc, w', fp, ha, hD, hpl, g1, g42, g43, g44, hfp, g45, ga, ga1, ga4, hfc, ga5, gp, gq⟩ := hC.get
  have h2 := hC.2.1.1.2
  try dsimp only at h2
  obtain ⟨_, _, _, gh, gt⟩ := hD
  by_cases hx : isW 0 v x
  · obtain ⟨_, q2, q3⟩ := isW_e (by decide) (by omega) hx
    simp only [s90_0, s90_1, s90_2, s90_3, s90_6, s90_9, s90_12, s90_15, s90_18, s90_19, s90_22, s90_25, s90_28, s90_29, s90_30, s90_30n, s90_33, s90_34, s90_37, s90_38, is_O, opt_s, opt_n, cat_0, cat_i, cat_r, true_and, Nat.zero_le, Nat.reduceAdd, Nat.reduceLeDiff, al_I, as_I, rl_R, ln_I, ln_R, nI_add, pk_mul, g_set, set_set, not_false_eq_true, gf0_0, gf0_1, gf0_2, gf1_0, gf1_1, gf1_2, gf1_3, gf1_4, gf1_5, gf1_6, gf1_7, gf1_8, gf1_9, gf1_10, gf1_11, gf2_0, gf2_1, gf2_2, gf3_0, gf3_1, gf4_0, gf4_1, gf4_2, gf5_0, gf5_1, gf5_2, gf5_3, gf6_0, gf6_1, gf6_2, gf6_3, gf6_4, gf6_5, gf6_6, gf7_0, gf7_1, gf7_2, gf7_3, gf7_4, gf7_5, pf0_0, pf0_1, pf0_2, pf1_0, pf1_1, pf1_2, pf1_3, pf1_4, pf1_5, pf1_6, pf1_7, pf1_8, pf1_9, pf1_10, pf1_11, pf2_0, pf2_1, pf2_2, pf3_0, pf3_1, pf4_0, pf4_1, pf4_2, pf5_0, pf5_1, pf5_2, pf5_3, pf6_0, pf6_1, pf6_2, pf6_3, pf6_4, pf6_5, pf6_6, pf7_0, pf7_1, pf7_2, pf7_3, pf7_4, pf7_5, g1, g42, ga, m_inW, if_pos hx, i10, i10n, not_true_eq_false, if_false, if_true, gh]
    rw [← q3]
    simp only [xi_n (show ix x < v + 1 by omega) (show v + 1 < 2147483648 by omega)]
    by_cases hp : (v - ix x) % 2 = 0
    · rw [if_pos ⟨hx, hp⟩] at hX
      simp only [if_pos (show okR v (ix x) from ⟨q2, hp⟩), va_rf, s90_0, s90_1, s90_2, s90_3, s90_6, s90_9, s90_12, s90_15, s90_18, s90_19, s90_22, s90_25, s90_28, s90_29, s90_30, s90_30n, s90_33, s90_34, s90_37, s90_38, is_O, opt_s, opt_n, cat_0, cat_i, cat_r, true_and, Nat.zero_le, Nat.reduceAdd, Nat.reduceLeDiff, al_I, as_I, rl_R, ln_I, ln_R, nI_add, pk_mul, g_set, set_set, not_false_eq_true, gf0_0, gf0_1, gf0_2, gf1_0, gf1_1, gf1_2, gf1_3, gf1_4, gf1_5, gf1_6, gf1_7, gf1_8, gf1_9, gf1_10, gf1_11, gf2_0, gf2_1, gf2_2, gf3_0, gf3_1, gf4_0, gf4_1, gf4_2, gf5_0, gf5_1, gf5_2, gf5_3, gf6_0, gf6_1, gf6_2, gf6_3, gf6_4, gf6_5, gf6_6, gf7_0, gf7_1, gf7_2, gf7_3, gf7_4, gf7_5, pf0_0, pf0_1, pf0_2, pf1_0, pf1_1, pf1_2, pf1_3, pf1_4, pf1_5, pf1_6, pf1_7, pf1_8, pf1_9, pf1_10, pf1_11, pf2_0, pf2_1, pf2_2, pf3_0, pf3_1, pf4_0, pf4_1, pf4_2, pf5_0, pf5_1, pf5_2, pf5_3, pf6_0, pf6_1, pf6_2, pf6_3, pf6_4, pf6_5, pf6_6, pf7_0, pf7_1, pf7_2, pf7_3, pf7_4, pf7_5, or_true]
      exact hX
    · rw [if_neg (fun z => hp z.2)] at hX
      simp only [if_neg (show ¬ okR v (ix x) from fun z => hp z.2), va_rf, s90_0, s90_1, s90_2, s90_3, s90_6, s90_9, s90_12, s90_15, s90_18, s90_19, s90_22, s90_25, s90_28, s90_29, s90_30, s90_30n, s90_33, s90_34, s90_37, s90_38, is_O, opt_s, opt_n, cat_0, cat_i, cat_r, true_and, Nat.zero_le, Nat.reduceAdd, Nat.reduceLeDiff, al_I, as_I, rl_R, ln_I, ln_R, nI_add, pk_mul, g_set, set_set, not_false_eq_true, gf0_0, gf0_1, gf0_2, gf1_0, gf1_1, gf1_2, gf1_3, gf1_4, gf1_5, gf1_6, gf1_7, gf1_8, gf1_9, gf1_10, gf1_11, gf2_0, gf2_1, gf2_2, gf3_0, gf3_1, gf4_0, gf4_1, gf4_2, gf5_0, gf5_1, gf5_2, gf5_3, gf6_0, gf6_1, gf6_2, gf6_3, gf6_4, gf6_5, gf6_6, gf7_0, gf7_1, gf7_2, gf7_3, gf7_4, gf7_5, pf0_0, pf0_1, pf0_2, pf1_0, pf1_1, pf1_2, pf1_3, pf1_4, pf1_5, pf1_6, pf1_7, pf1_8, pf1_9, pf1_10, pf1_11, pf2_0, pf2_1, pf2_2, pf3_0, pf3_1, pf4_0, pf4_1, pf4_2, pf5_0, pf5_1, pf5_2, pf5_3, pf6_0, pf6_1, pf6_2, pf6_3, pf6_4, pf6_5, pf6_6, pf7_0, pf7_1, pf7_2, pf7_3, pf7_4, pf7_5, true_or]
      exact hX
  · rw [if_neg (fun z => hx z.1)] at hX
    simp only [s90_0, s90_1, s90_2, s90_3, s90_6, s90_9, s90_12, s90_15, s90_18, s90_19, s90_22, s90_25, s90_28, s90_29, s90_30, s90_30n, s90_33, s90_34, s90_37, s90_38, is_O, opt_s, opt_n, cat_0, cat_i, cat_r, true_and, Nat.zero_le, Nat.reduceAdd, Nat.reduceLeDiff, al_I, as_I, rl_R, ln_I, ln_R, nI_add, pk_mul, g_set, set_set, not_false_eq_true, gf0_0, gf0_1, gf0_2, gf1_0, gf1_1, gf1_2, gf1_3, gf1_4, gf1_5, gf1_6, gf1_7, gf1_8, gf1_9, gf1_10, gf1_11, gf2_0, gf2_1, gf2_2, gf3_0, gf3_1, gf4_0, gf4_1, gf4_2, gf5_0, gf5_1, gf5_2, gf5_3, gf6_0, gf6_1, gf6_2, gf6_3, gf6_4, gf6_5, gf6_6, gf7_0, gf7_1, gf7_2, gf7_3, gf7_4, gf7_5, pf0_0, pf0_1, pf0_2, pf1_0, pf1_1, pf1_2, pf1_3, pf1_4, pf1_5, pf1_6, pf1_7, pf1_8, pf1_9, pf1_10, pf1_11, pf2_0, pf2_1, pf2_2, pf3_0, pf3_1, pf4_0, pf4_1, pf4_2, pf5_0, pf5_1, pf5_2, pf5_3, pf6_0, pf6_1, pf6_2, pf6_3, pf6_4, pf6_5, pf6_6, pf7_0, pf7_1, pf7_2, pf7_3, pf7_4, pf7_5, g1, g42, ga, m_inW, if_neg hx, i10, i10n, not_true_eq_false, if_false, if_true, true_or]
    exact hX
theorem l_cp {n : Nat} (hn : n ≤ 101) : ∀ (m k : Nat), m + k = 12 → 2 ≤ k → X (some (.int (bI (cpL n m k)))) h → ex_W 86 14 [.int (nI n), .int (nI k)] [] h X := by
  intro m
  induction m with
  | zero =>
    intro k hm hk hX
    obtain rfl : k = 12 := by omega
    rw [s86_14]
    simp only [s86_0, s86_1, s86_2, s86_4, s86_7, s86_10, s86_11, s86_12, s86_13, s86_15, s86_16, s86_17, s86_18, s86_21, s86_22, s86_23, s86_24, s86_27, s86_28, s86_29, s86_32, s86_35, s86_36, is_O, opt_s, opt_n, cat_0, cat_i, cat_r, true_and, Nat.zero_le, Nat.reduceAdd, Nat.reduceLeDiff, al_I, as_I, rl_R, ln_I, ln_R, nI_add, pk_mul, g_set, set_set, not_false_eq_true, gf0_0, gf0_1, gf0_2, gf1_0, gf1_1, gf1_2, gf1_3, gf1_4, gf1_5, gf1_6, gf1_7, gf1_8, gf1_9, gf1_10, gf1_11, gf2_0, gf2_1, gf2_2, gf3_0, gf3_1, gf4_0, gf4_1, gf4_2, gf5_0, gf5_1, gf5_2, gf5_3, gf6_0, gf6_1, gf6_2, gf6_3, gf6_4, gf6_5, gf6_6, gf7_0, gf7_1, gf7_2, gf7_3, gf7_4, gf7_5, pf0_0, pf0_1, pf0_2, pf1_0, pf1_1, pf1_2, pf1_3, pf1_4, pf1_5, pf1_6, pf1_7, pf1_8, pf1_9, pf1_10, pf1_11, pf2_0, pf2_1, pf2_2, pf3_0, pf3_1, pf4_0, pf4_1, pf4_2, pf5_0, pf5_1, pf5_2, pf5_3, pf6_0, pf6_1, pf6_2, pf6_3, pf6_4, pf6_5, pf6_6, pf7_0, pf7_1, pf7_2, pf7_3, pf7_4, pf7_5, or_true]
    rw [if_pos ((nI_l2 (by omega) (by omega)).mpr (by omega))]
    exact hX
  | succ m ih =>
    intro k hm hk hX
    have hkk : k * k ≤ 12 * 12 := Nat.mul_le_mul (by omega) (by omega)
    rw [cpL] at hX
    rw [s86_14]
    simp only [s86_0, s86_1, s86_2, s86_4, s86_7, s86_10, s86_11, s86_12, s86_13, s86_15, s86_16, s86_17, s86_18, s86_21, s86_22, s86_23, s86_24, s86_27, s86_28, s86_29, s86_32, s86_35, s86_36, is_O, opt_s, opt_n, cat_0, cat_i, cat_r, true_and, Nat.zero_le, Nat.reduceAdd, Nat.reduceLeDiff, al_I, as_I, rl_R, ln_I, ln_R, nI_add, pk_mul, g_set, set_set, not_false_eq_true, gf0_0, gf0_1, gf0_2, gf1_0, gf1_1, gf1_2, gf1_3, gf1_4, gf1_5, gf1_6, gf1_7, gf1_8, gf1_9, gf1_10, gf1_11, gf2_0, gf2_1, gf2_2, gf3_0, gf3_1, gf4_0, gf4_1, gf4_2, gf5_0, gf5_1, gf5_2, gf5_3, gf6_0, gf6_1, gf6_2, gf6_3, gf6_4, gf6_5, gf6_6, gf7_0, gf7_1, gf7_2, gf7_3, gf7_4, gf7_5, pf0_0, pf0_1, pf0_2, pf1_0, pf1_1, pf1_2, pf1_3, pf1_4, pf1_5, pf1_6, pf1_7, pf1_8, pf1_9, pf1_10, pf1_11, pf2_0, pf2_1, pf2_2, pf3_0, pf3_1, pf4_0, pf4_1, pf4_2, pf5_0, pf5_1, pf5_2, pf5_3, pf6_0, pf6_1, pf6_2, pf6_3, pf6_4, pf6_5, pf6_6, pf7_0, pf7_1, pf7_2, pf7_3, pf7_4, pf7_5, true_or, or_true]
    by_cases hc : n < k * k
    · rw [if_pos hc] at hX
      rw [if_pos ((nI_l2 (by omega) (by omega)).mpr (by omega))]
      exact hX
    · rw [if_neg hc] at hX
      rw [if_neg (fun z => absurd ((nI_l2 (by omega) (by omega)).mp z) (by omega))]
      refine ⟨nI_ne0 (by omega) (by have e : (2:Nat)^31 = 2147483648 := rfl; omega), ?_⟩
      rw [pk_rem (by have e : (2:Nat)^31 = 2147483648 := rfl; omega) (by omega) (by have e : (2:Nat)^31 = 2147483648 := rfl; omega)]
      have hm : n % k < 2147483648 := by have := Nat.mod_lt n (show k > 0 by omega); omega
      by_cases hc2 : n % k = 0
      · rw [if_pos hc2] at hX
        rw [if_neg (fun z => z (by rw [hc2]))]
        exact hX
      · rw [if_neg hc2] at hX
        rw [if_pos (fun z => hc2 ((nI_e hm (by omega)).mp z))]
        exact ih (k + 1) (by omega) (by omega) hX
theorem m_cP {x : Int32} (hX : X (some (.int (if isPr x then nI 1 else nI 0))) h) : ex_W 86 0 [.int x, oU] [] h X := by
  by_cases hx : isW 2 101 x
  · obtain ⟨q1, q2, q3⟩ := isW_e (by decide) (by decide) hx
    simp only [s86_0, s86_1, s86_2, s86_4, s86_7, s86_10, s86_11, s86_12, s86_13, s86_15, s86_16, s86_17, s86_18, s86_21, s86_22, s86_23, s86_24, s86_27, s86_28, s86_29, s86_32, s86_35, s86_36, is_O, opt_s, opt_n, cat_0, cat_i, cat_r, true_and, Nat.zero_le, Nat.reduceAdd, Nat.reduceLeDiff, al_I, as_I, rl_R, ln_I, ln_R, nI_add, pk_mul, g_set, set_set, not_false_eq_true, gf0_0, gf0_1, gf0_2, gf1_0, gf1_1, gf1_2, gf1_3, gf1_4, gf1_5, gf1_6, gf1_7, gf1_8, gf1_9, gf1_10, gf1_11, gf2_0, gf2_1, gf2_2, gf3_0, gf3_1, gf4_0, gf4_1, gf4_2, gf5_0, gf5_1, gf5_2, gf5_3, gf6_0, gf6_1, gf6_2, gf6_3, gf6_4, gf6_5, gf6_6, gf7_0, gf7_1, gf7_2, gf7_3, gf7_4, gf7_5, pf0_0, pf0_1, pf0_2, pf1_0, pf1_1, pf1_2, pf1_3, pf1_4, pf1_5, pf1_6, pf1_7, pf1_8, pf1_9, pf1_10, pf1_11, pf2_0, pf2_1, pf2_2, pf3_0, pf3_1, pf4_0, pf4_1, pf4_2, pf5_0, pf5_1, pf5_2, pf5_3, pf6_0, pf6_1, pf6_2, pf6_3, pf6_4, pf6_5, pf6_6, pf7_0, pf7_1, pf7_2, pf7_3, pf7_4, pf7_5, m_inW, if_pos hx, i10, i10n, not_true_eq_false, if_false, if_true]
    rw [← q3]
    refine l_cp q2 10 2 (by decide) (by decide) ?_
    have hk := allN_of cpL_k (show ix x < 102 by omega)
    rw [Bool.or_eq_true, decide_eq_true_eq, decide_eq_true_eq] at hk
    rw [hk.resolve_left (by omega)]
    by_cases hp : prT (ix x) = true
    · rw [if_pos ⟨hx, hp⟩] at hX
      rw [hp]
      exact hX
    · rw [if_neg (fun z => hp z.2)] at hX
      rw [Bool.not_eq_true] at hp
      rw [hp]
      exact hX
  · rw [if_neg (fun z => hx z.1)] at hX
    simp only [s86_0, s86_1, s86_2, s86_4, s86_7, s86_10, s86_11, s86_12, s86_13, s86_15, s86_16, s86_17, s86_18, s86_21, s86_22, s86_23, s86_24, s86_27, s86_28, s86_29, s86_32, s86_35, s86_36, is_O, opt_s, opt_n, cat_0, cat_i, cat_r, true_and, Nat.zero_le, Nat.reduceAdd, Nat.reduceLeDiff, al_I, as_I, rl_R, ln_I, ln_R, nI_add, pk_mul, g_set, set_set, not_false_eq_true, gf0_0, gf0_1, gf0_2, gf1_0, gf1_1, gf1_2, gf1_3, gf1_4, gf1_5, gf1_6, gf1_7, gf1_8, gf1_9, gf1_10, gf1_11, gf2_0, gf2_1, gf2_2, gf3_0, gf3_1, gf4_0, gf4_1, gf4_2, gf5_0, gf5_1, gf5_2, gf5_3, gf6_0, gf6_1, gf6_2, gf6_3, gf6_4, gf6_5, gf6_6, gf7_0, gf7_1, gf7_2, gf7_3, gf7_4, gf7_5, pf0_0, pf0_1, pf0_2, pf1_0, pf1_1, pf1_2, pf1_3, pf1_4, pf1_5, pf1_6, pf1_7, pf1_8, pf1_9, pf1_10, pf1_11, pf2_0, pf2_1, pf2_2, pf3_0, pf3_1, pf4_0, pf4_1, pf4_2, pf5_0, pf5_1, pf5_2, pf5_3, pf6_0, pf6_1, pf6_2, pf6_3, pf6_4, pf6_5, pf6_6, pf7_0, pf7_1, pf7_2, pf7_3, pf7_4, pf7_5, m_inW, if_neg hx, i10, i10n, not_true_eq_false, if_false, if_true, true_or]
    exact hX
end C28
