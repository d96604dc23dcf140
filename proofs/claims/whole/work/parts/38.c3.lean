/-! THE CLASS: cells that are made, and what a method may change -/
def ch (ks : List Nat) (h H : ex_Hp) : Prop := H.1 = h.1 ∧ H.2.1 = h.2.1 ∧ ∀ q, q ∉ ks → ex_g H q = ex_g h q
section C3
variable {h H : ex_Hp} {X : Option Value → ex_Hp → Prop} {P o t w r n k : Nat} {c0 c1 c2 : Value} {c : ex_AC}
theorem ch.rfl' {ks : List Nat} : ch ks h h := ⟨rfl, rfl, fun _ _ => rfl⟩
theorem ch.trans {ks : List Nat} {K : ex_Hp} (a : ch ks h H) (b : ch ks H K) : ch ks h K := ⟨b.1.trans a.1, b.2.1.trans a.2.1, fun q hq => (b.2.2 q hq).trans (a.2.2 q hq)⟩
theorem ch.sub {ks js : List Nat} (a : ch ks h H) (hs : ∀ q, q ∈ ks → q ∈ js) : ch js h H := ⟨a.1, a.2.1, fun q hq => a.2.2 q (fun z => hq (hs q z))⟩
theorem ch.set {ks : List Nat} {q : Nat} (a : ch ks h H) (hq : q ∈ ks) : ch ks h (ex_set H q c) := ⟨a.1, a.2.1, fun p hp => by rw [g_ne (fun z => hp (by rw [z]; exact hq))]; exact a.2.2 p hp⟩
theorem na_n {F : Nat → Prop} (hn : n ≤ 100000) : ex_na0 (nI n) F = F n := by
  have e : (2 : Nat) ^ 31 = 2147483648 := rfl
  unfold ex_na0
  rw [if_neg (fun z => by
    rw [nI_clamp (by omega)] at z
    rcases z with z | z
    · exact absurd z (nI_pos (by omega))
    · omega), nI_clamp (by omega)]
theorem g_new : ex_g (ex_new h c k) h.1 = some c := by simp [ex_g, ex_new]
theorem g_newn {q : Nat} (hq : ¬ q = h.1) : ex_g (ex_new h c k) q = ex_g h q := by simp [ex_g, ex_new, hq]
theorem new_1 : (ex_new h c k).1 = h.1 + 1 := rfl
theorem new_2 : (ex_new h c k).2.1 = h.2.1 + k := rfl
theorem set_1 : (ex_set h k c).1 = h.1 := rfl
theorem set_2 : (ex_set h k c).2.1 = h.2.1 := rfl
theorem new2_1 {N K : Nat} : (ex_new2 h N K).1 = h.1 + 1 + N := rfl
theorem new2_2 {N K : Nat} : (ex_new2 h N K).2.1 = h.2.1 + (N + N * K) := rfl
theorem g_new2o {N K : Nat} : ex_g (ex_new2 h N K) h.1 = some (cR 2 N (fun i => if i < N then some (h.1 + 1 + i) else none)) := by simp [ex_g, ex_new2]
theorem g_new2r {N K i : Nat} (hi : i < N) : ex_g (ex_new2 h N K) (h.1 + 1 + i) = some (cI K (fun _ => nI 0)) := by
  unfold ex_g ex_new2
  dsimp only
  rw [if_neg (by omega), if_pos (by omega)]
  rfl
theorem g_new2n {N K q : Nat} (hq : q < h.1 ∨ h.1 + 1 + N ≤ q) : ex_g (ex_new2 h N K) q = ex_g h q := by
  unfold ex_g ex_new2
  dsimp only
  rw [if_neg (by omega), if_neg (by omega)]
theorem cln_I {f : Nat → Int32} {F : Nat → (Nat → Int32) → Prop} : ex_cln (some (cI n f)) F = F n f := propext Iff.rfl
theorem ck_I {f : Nat → Int32} {F : Prop} : ex_ck (some (cI n f)) F = F := propext Iff.rfl
theorem cpy_I {a b m sp dp : Nat} {f g : Nat → Int32} {F : ex_AC → Prop} (ha : sp + m ≤ a) (hb : dp + m ≤ b) (hs : sp + m < 100000 ∧ dp + m < 100000) : ex_cpy (some (cI a f)) (some (cI b g)) (nI sp) (nI dp) (nI m) F = F (cI b (va_cpy f g sp dp m)) := by
  have e : (2 : Nat) ^ 31 = 2147483648 := rfl
  unfold ex_cpy
  dsimp only
  rw [nI_clamp (show sp < 2 ^ 31 by omega), nI_clamp (show dp < 2 ^ 31 by omega), nI_clamp (show m < 2 ^ 31 by omega), if_pos ⟨rfl, rfl, nI_pos (by omega), nI_pos (by omega), nI_pos (by omega), ha, hb⟩]
theorem m_find {ca N d x : Nat} {fc : Nat → Int32} {P' o' w' : Value} (hN : N ≤ 42) (hd : d < N) (ht : ex_g h t = some (cO 6 [.int (nI N), c1, .ref ca, P', o', c2, w'])) (hc : ex_g h ca = some (cI N fc)) (hx : fc d = nI x) (hne : ∀ i, i < d → ¬ fc i = nI x) (hX : X (some (.int (nI d))) h) : ∀ (m i : Nat), m + i = d → ex_W 58 2 [.ref t, .int (nI x), .int (nI i)] [] h X := by
  intro m
  induction m with
  | zero =>
    intro i hm
    obtain rfl : i = d := by omega
    rw [s58_2]
    simp only [s58_0, s58_1, s58_3, s58_4, s58_7, s58_10, s58_11, s58_14, s58_15, s58_16, s58_17, s58_20, s58_21, s58_22, s58_25, s58_28, s58_29, is_O, opt_s, opt_n, cat_0, cat_i, cat_r, true_and, Nat.zero_le, Nat.reduceAdd, Nat.reduceLeDiff, al_I, as_I, rl_R, ln_I, ln_R, nI_add, pk_mul, g_set, set_set, not_false_eq_true, gf0_0, gf0_1, gf0_2, gf1_0, gf1_1, gf1_2, gf1_3, gf1_4, gf1_5, gf1_6, gf1_7, gf1_8, gf1_9, gf1_10, gf1_11, gf2_0, gf2_1, gf2_2, gf3_0, gf3_1, gf4_0, gf4_1, gf4_2, gf5_0, gf5_1, gf5_2, gf5_3, gf6_0, gf6_1, gf6_2, gf6_3, gf6_4, gf6_5, gf6_6, gf7_0, gf7_1, gf7_2, gf7_3, gf7_4, gf7_5, pf0_0, pf0_1, pf0_2, pf1_0, pf1_1, pf1_2, pf1_3, pf1_4, pf1_5, pf1_6, pf1_7, pf1_8, pf1_9, pf1_10, pf1_11, pf2_0, pf2_1, pf2_2, pf3_0, pf3_1, pf4_0, pf4_1, pf4_2, pf5_0, pf5_1, pf5_2, pf5_3, pf6_0, pf6_1, pf6_2, pf6_3, pf6_4, pf6_5, pf6_6, pf7_0, pf7_1, pf7_2, pf7_3, pf7_4, pf7_5, ht, hc, xi_n hd (show N < 2147483648 by omega), hx]
    rw [if_neg (fun z => absurd ((nI_l1 (by omega) (by omega)).mp z) (by omega)), if_neg (fun z => z trivial)]
    exact hX
  | succ m ih =>
    intro i hm
    rw [s58_2]
    simp only [s58_0, s58_1, s58_3, s58_4, s58_7, s58_10, s58_11, s58_14, s58_15, s58_16, s58_17, s58_20, s58_21, s58_22, s58_25, s58_28, s58_29, is_O, opt_s, opt_n, cat_0, cat_i, cat_r, true_and, Nat.zero_le, Nat.reduceAdd, Nat.reduceLeDiff, al_I, as_I, rl_R, ln_I, ln_R, nI_add, pk_mul, g_set, set_set, not_false_eq_true, gf0_0, gf0_1, gf0_2, gf1_0, gf1_1, gf1_2, gf1_3, gf1_4, gf1_5, gf1_6, gf1_7, gf1_8, gf1_9, gf1_10, gf1_11, gf2_0, gf2_1, gf2_2, gf3_0, gf3_1, gf4_0, gf4_1, gf4_2, gf5_0, gf5_1, gf5_2, gf5_3, gf6_0, gf6_1, gf6_2, gf6_3, gf6_4, gf6_5, gf6_6, gf7_0, gf7_1, gf7_2, gf7_3, gf7_4, gf7_5, pf0_0, pf0_1, pf0_2, pf1_0, pf1_1, pf1_2, pf1_3, pf1_4, pf1_5, pf1_6, pf1_7, pf1_8, pf1_9, pf1_10, pf1_11, pf2_0, pf2_1, pf2_2, pf3_0, pf3_1, pf4_0, pf4_1, pf4_2, pf5_0, pf5_1, pf5_2, pf5_3, pf6_0, pf6_1, pf6_2, pf6_3, pf6_4, pf6_5, pf6_6, pf7_0, pf7_1, pf7_2, pf7_3, pf7_4, pf7_5, ht, hc, xi_n (show i < N by omega) (show N < 2147483648 by omega)]
    rw [if_neg (fun z => absurd ((nI_l1 (by omega) (by omega)).mp z) (by omega)), if_pos (hne i (by omega))]
    exact ih (i + 1) (by omega)
theorem l_frow {v : Nat} {f : Nat → Int32} {u : Nat → Nat} {o' c3 w' : Value} (h2 : v ≤ 5) (ht : ex_g h t = some (cO 6 [c0, c1, c2, .int (nI (2 * v)), o', c3, w'])) (hr : ex_g h r = some (cI (2 * v) f)) (hf : ∀ j, j < 2 * v → f j = nI (u j)) (hu : ∀ j, j < 2 * v → u j < 1000) : ∀ (n p acc : Nat), n + p = 2 * v → acc < 2 ^ p → ex_W 59 35 [.ref t, .ref r, .int (nI (txo u n p acc)), .int (nI (2 * v))] [] h X → ex_W 59 4 [.ref t, .ref r, .int (nI acc), .int (nI p)] [] h X := by
  intro n
  induction n with
  | zero =>
    intro p acc hn hacc hX
    obtain rfl : p = 2 * v := by omega
    rw [s59_4]
    simp only [s59_0, s59_1, s59_2, s59_3, s59_5, s59_6, s59_9, s59_12, s59_13, s59_14, s59_15, s59_16, s59_17, s59_18, s59_19, s59_22, s59_23, s59_26, s59_27, s59_28, s59_29, s59_32, s59_36, s59_37, s59_40, is_O, opt_s, opt_n, cat_0, cat_i, cat_r, true_and, Nat.zero_le, Nat.reduceAdd, Nat.reduceLeDiff, al_I, as_I, rl_R, ln_I, ln_R, nI_add, pk_mul, g_set, set_set, not_false_eq_true, gf0_0, gf0_1, gf0_2, gf1_0, gf1_1, gf1_2, gf1_3, gf1_4, gf1_5, gf1_6, gf1_7, gf1_8, gf1_9, gf1_10, gf1_11, gf2_0, gf2_1, gf2_2, gf3_0, gf3_1, gf4_0, gf4_1, gf4_2, gf5_0, gf5_1, gf5_2, gf5_3, gf6_0, gf6_1, gf6_2, gf6_3, gf6_4, gf6_5, gf6_6, gf7_0, gf7_1, gf7_2, gf7_3, gf7_4, gf7_5, pf0_0, pf0_1, pf0_2, pf1_0, pf1_1, pf1_2, pf1_3, pf1_4, pf1_5, pf1_6, pf1_7, pf1_8, pf1_9, pf1_10, pf1_11, pf2_0, pf2_1, pf2_2, pf3_0, pf3_1, pf4_0, pf4_1, pf4_2, pf5_0, pf5_1, pf5_2, pf5_3, pf6_0, pf6_1, pf6_2, pf6_3, pf6_4, pf6_5, pf6_6, pf7_0, pf7_1, pf7_2, pf7_3, pf7_4, pf7_5, ht]
    rw [if_pos ((nI_l1 (by omega) (by omega)).mpr (by omega))]
    exact hX
  | succ n ih =>
    intro p acc hn hacc hX
    have hpow : 2 ^ p ≤ 2 ^ 10 := Nat.pow_le_pow_right (by decide) (by omega)
    rw [s59_4]
    simp only [s59_0, s59_1, s59_2, s59_3, s59_5, s59_6, s59_9, s59_12, s59_13, s59_14, s59_15, s59_16, s59_17, s59_18, s59_19, s59_22, s59_23, s59_26, s59_27, s59_28, s59_29, s59_32, s59_36, s59_37, s59_40, is_O, opt_s, opt_n, cat_0, cat_i, cat_r, true_and, Nat.zero_le, Nat.reduceAdd, Nat.reduceLeDiff, al_I, as_I, rl_R, ln_I, ln_R, nI_add, pk_mul, g_set, set_set, not_false_eq_true, gf0_0, gf0_1, gf0_2, gf1_0, gf1_1, gf1_2, gf1_3, gf1_4, gf1_5, gf1_6, gf1_7, gf1_8, gf1_9, gf1_10, gf1_11, gf2_0, gf2_1, gf2_2, gf3_0, gf3_1, gf4_0, gf4_1, gf4_2, gf5_0, gf5_1, gf5_2, gf5_3, gf6_0, gf6_1, gf6_2, gf6_3, gf6_4, gf6_5, gf6_6, gf7_0, gf7_1, gf7_2, gf7_3, gf7_4, gf7_5, pf0_0, pf0_1, pf0_2, pf1_0, pf1_1, pf1_2, pf1_3, pf1_4, pf1_5, pf1_6, pf1_7, pf1_8, pf1_9, pf1_10, pf1_11, pf2_0, pf2_1, pf2_2, pf3_0, pf3_1, pf4_0, pf4_1, pf4_2, pf5_0, pf5_1, pf5_2, pf5_3, pf6_0, pf6_1, pf6_2, pf6_3, pf6_4, pf6_5, pf6_6, pf7_0, pf7_1, pf7_2, pf7_3, pf7_4, pf7_5, ht, hr, xi_n (show p < 2 * v by omega) (show 2 * v < 2147483648 by omega), hf p (by omega)]
    rw [if_neg (fun z => absurd ((nI_l1 (by omega) (by omega)).mp z) (by omega))]
    rw [txo] at hX
    have hup := hu p (by omega)
    by_cases hp : p < u p
    · rw [if_neg (fun z => absurd ((nI_l1 (by omega) (by omega)).mp z) (by omega))]
      rw [if_pos hp] at hX
      exact ih (p + 1) _ (by omega) (by rw [Nat.pow_succ]; omega) hX
    · rw [if_pos ((nI_l1 (by omega) (by omega)).mpr (by omega))]
      rw [if_neg hp] at hX
      exact ih (p + 1) _ (by omega) (by rw [Nat.pow_succ]; omega) hX
theorem m_findRow {v d ca : Nat} {f fc : Nat → Int32} {w' : Value} (h1 : 1 ≤ v) (h2 : v ≤ 5) (hd : d < tC v) (ht : ex_g h t = some (cO 6 [.int (nI (tC v)), c1, .ref ca, .int (nI (2 * v)), c0, c2, w'])) (hc : ex_g h ca = some (cI (tC v) fc)) (hfc : ∀ i, i < tC v → fc i = nI (tCode v i)) (hr : ex_g h r = some (cI (2 * v) f)) (hf : ∀ j, j < 2 * v → f j = nI (tR v d j)) (hX : X (some (.int (nI d))) h) : ex_W 59 0 [.ref t, .ref r, oU, oU] [] h X := by
  have hC := tC_le h1 h2
  have hpow : 2 ^ (2 * v) ≤ 2 ^ 10 := Nat.pow_le_pow_right (by decide) (by omega)
  rw [s59_0, s59_1, s59_2, s59_3]
  refine l_frow h2 ht hr hf (fun j hj => by have := tR_lt h1 h2 hd hj; omega) (2 * v) 0 0 (by omega) (by decide) ?_
  rw [tTxo h1 h2 hd]
  simp only [s59_0, s59_1, s59_2, s59_3, s59_5, s59_6, s59_9, s59_12, s59_13, s59_14, s59_15, s59_16, s59_17, s59_18, s59_19, s59_22, s59_23, s59_26, s59_27, s59_28, s59_29, s59_32, s59_35, s59_36, s59_37, s59_40, is_O, opt_s, opt_n, cat_0, cat_i, cat_r, true_and, Nat.zero_le, Nat.reduceAdd, Nat.reduceLeDiff, al_I, as_I, rl_R, ln_I, ln_R, nI_add, pk_mul, g_set, set_set, not_false_eq_true, gf0_0, gf0_1, gf0_2, gf1_0, gf1_1, gf1_2, gf1_3, gf1_4, gf1_5, gf1_6, gf1_7, gf1_8, gf1_9, gf1_10, gf1_11, gf2_0, gf2_1, gf2_2, gf3_0, gf3_1, gf4_0, gf4_1, gf4_2, gf5_0, gf5_1, gf5_2, gf5_3, gf6_0, gf6_1, gf6_2, gf6_3, gf6_4, gf6_5, gf6_6, gf7_0, gf7_1, gf7_2, gf7_3, gf7_4, gf7_5, pf0_0, pf0_1, pf0_2, pf1_0, pf1_1, pf1_2, pf1_3, pf1_4, pf1_5, pf1_6, pf1_7, pf1_8, pf1_9, pf1_10, pf1_11, pf2_0, pf2_1, pf2_2, pf3_0, pf3_1, pf4_0, pf4_1, pf4_2, pf5_0, pf5_1, pf5_2, pf5_3, pf6_0, pf6_1, pf6_2, pf6_3, pf6_4, pf6_5, pf6_6, pf7_0, pf7_1, pf7_2, pf7_3, pf7_4, pf7_5, ht, s58_0, s58_1]
  refine m_find (N := tC v) hC.2 hd ht hc (hfc d hd) (fun i hi => ?_) ?_ d 0 (by omega)
  · rw [hfc i (by omega)]
    intro z
    have a1 := tCode_lt h1 h2 hd
    have a2 := tCode_lt h1 h2 (show i < tC v by omega)
    have := (nI_e (by omega) (by omega)).mp z
    rw [this] at a2
    omega
  · simp only [s59_0, s59_1, s59_2, s59_3, s59_5, s59_6, s59_9, s59_12, s59_13, s59_14, s59_15, s59_16, s59_17, s59_18, s59_19, s59_22, s59_23, s59_26, s59_27, s59_28, s59_29, s59_32, s59_35, s59_36, s59_37, s59_40, is_O, opt_s, opt_n, cat_0, cat_i, cat_r, true_and, Nat.zero_le, Nat.reduceAdd, Nat.reduceLeDiff, al_I, as_I, rl_R, ln_I, ln_R, nI_add, pk_mul, g_set, set_set, not_false_eq_true, gf0_0, gf0_1, gf0_2, gf1_0, gf1_1, gf1_2, gf1_3, gf1_4, gf1_5, gf1_6, gf1_7, gf1_8, gf1_9, gf1_10, gf1_11, gf2_0, gf2_1, gf2_2, gf3_0, gf3_1, gf4_0, gf4_1, gf4_2, gf5_0, gf5_1, gf5_2, gf5_3, gf6_0, gf6_1, gf6_2, gf6_3, gf6_4, gf6_5, gf6_6, gf7_0, gf7_1, gf7_2, gf7_3, gf7_4, gf7_5, pf0_0, pf0_1, pf0_2, pf1_0, pf1_1, pf1_2, pf1_3, pf1_4, pf1_5, pf1_6, pf1_7, pf1_8, pf1_9, pf1_10, pf1_11, pf2_0, pf2_1, pf2_2, pf3_0, pf3_1, pf4_0, pf4_1, pf4_2, pf5_0, pf5_1, pf5_2, pf5_3, pf6_0, pf6_1, pf6_2, pf6_3, pf6_4, pf6_5, pf6_6, pf7_0, pf7_1, pf7_2, pf7_3, pf7_4, pf7_5]
    exact hX
theorem m_read {cd : Nat} {fw f0 : Nat → Int32} (hv : vP P o) (hcd : cd < bs o ^ P) (ht : ex_g h t = some (oTx c0 c1 c2 P o w)) (tw : ¬ t = w) (tr : ¬ t = r) (wr' : ¬ w = r) (hw : ex_g h w = some (cI P fw)) (hr : ex_g h r = some (cI P f0)) (hX : ∀ H fw fr, ch [w, r] h H → ex_g H w = some (cI P fw) → ex_g H r = some (cI P fr) → (okc o (rdc (bs o) P cd [] [] 0) = true → ∀ j, j < P → fr j = oV (rL P o (cIx P o cd) j)) → X (some (.int (bI (okc o (rdc (bs o) P cd [] [] 0))))) H) : ex_W 56 0 [.ref t, .int (nI cd), .ref r, oU, oU, oU, oU, oU] [] h X := by
  obtain ⟨p1, p2, p3, _, _, _, _, p8⟩ := vP0 hv
  simp only [s56_0, s56_1, s56_2, s56_3, s56_5, s56_6, s56_8, s56_9, s56_12, s56_13, s56_14, s56_18, s56_21, s56_22, s56_23, s56_26, s56_27, s56_29, s56_30, s56_31, s56_34, s56_35, s56_36, s56_38, s56_39, s56_42, s56_43, s56_46, s56_48, s56_50, s56_51, s56_54, s56_57, s56_59, s56_62, s56_64, s56_67, s56_70, s56_71, s56_73, s56_74, s56_77, s56_79, s56_80, s56_83, s56_86, s56_88, s56_89, s56_92, s56_94, s56_97, s56_98, s56_100, s56_101, s56_102, s56_105, s56_108, s56_109, s56_110, s56_113, s56_116, s56_118, s56_121, s56_123, s56_124, s56_127, s56_130, s56_131, s56_134, s56_135, is_O, opt_s, opt_n, cat_0, cat_i, cat_r, true_and, Nat.zero_le, Nat.reduceAdd, Nat.reduceLeDiff, al_I, as_I, rl_R, ln_I, ln_R, nI_add, pk_mul, g_set, set_set, not_false_eq_true, gf0_0, gf0_1, gf0_2, gf1_0, gf1_1, gf1_2, gf1_3, gf1_4, gf1_5, gf1_6, gf1_7, gf1_8, gf1_9, gf1_10, gf1_11, gf2_0, gf2_1, gf2_2, gf3_0, gf3_1, gf4_0, gf4_1, gf4_2, gf5_0, gf5_1, gf5_2, gf5_3, gf6_0, gf6_1, gf6_2, gf6_3, gf6_4, gf6_5, gf6_6, gf7_0, gf7_1, gf7_2, gf7_3, gf7_4, gf7_5, pf0_0, pf0_1, pf0_2, pf1_0, pf1_1, pf1_2, pf1_3, pf1_4, pf1_5, pf1_6, pf1_7, pf1_8, pf1_9, pf1_10, pf1_11, pf2_0, pf2_1, pf2_2, pf3_0, pf3_1, pf4_0, pf4_1, pf4_2, pf5_0, pf5_1, pf5_2, pf5_3, pf6_0, pf6_1, pf6_2, pf6_3, pf6_4, pf6_5, pf6_6, pf7_0, pf7_1, pf7_2, pf7_3, pf7_4, pf7_5, ht]
  have := l_rd (X := X) (l1 := .int (nI cd)) (f0 := f0) p2 p3 ht tw tr wr' P cd [] [] 0 oU fw (by omega) (by omega) (by simp) (fun q hq => by cases hq) (fun j hj => by cases hj) (by omega) (fun fw' fr' hfr => ?_)
  · have e : wrO [] f0 = f0 := by funext j; rfl
    rw [e, set_same hw, set_same hr] at this
    exact this
  · refine hX _ fw' fr' ((ch.rfl'.set (by simp)).set (by simp)) (by rw [g_ne wr', g_set]) g_set (fun hk j hj => ?_)
    rw [hfr hk]
    unfold wrO
    rw [(vPs1 hv hcd hk).2 j hj]
theorem l_fc12 {l1 l2 l5 : Value} (hP : P ≤ 10) (hb : bs o ^ P ≤ 1024) (ht : ex_g h t = some (oTx c0 c1 c2 P o w)) (hX : ex_W 55 34 [.ref t, l1, l2, .int (nI (bs o ^ P)), .int (nI P), l5] [] h X) : ∀ (n i : Nat), n + i = P → ex_W 55 12 [.ref t, l1, l2, .int (nI (bs o ^ i)), .int (nI i), l5] [] h X := by
  intro n
  induction n with
  | zero =>
    intro i hn
    obtain rfl : i = P := by omega
    rw [s55_12]
    simp only [s55_0, s55_1, s55_4, s55_6, s55_7, s55_8, s55_9, s55_10, s55_14, s55_15, s55_18, s55_21, s55_22, s55_23, s55_26, s55_27, s55_28, s55_31, s55_35, s55_37, s55_38, s55_40, s55_42, s55_43, s55_46, s55_48, s55_49, s55_50, s55_53, s55_54, s55_56, s55_57, s55_60, s55_63, s55_64, s55_66, s55_68, s55_69, s55_72, s55_75, s55_78, s55_80, is_O, opt_s, opt_n, cat_0, cat_i, cat_r, true_and, Nat.zero_le, Nat.reduceAdd, Nat.reduceLeDiff, al_I, as_I, rl_R, ln_I, ln_R, nI_add, pk_mul, g_set, set_set, not_false_eq_true, gf0_0, gf0_1, gf0_2, gf1_0, gf1_1, gf1_2, gf1_3, gf1_4, gf1_5, gf1_6, gf1_7, gf1_8, gf1_9, gf1_10, gf1_11, gf2_0, gf2_1, gf2_2, gf3_0, gf3_1, gf4_0, gf4_1, gf4_2, gf5_0, gf5_1, gf5_2, gf5_3, gf6_0, gf6_1, gf6_2, gf6_3, gf6_4, gf6_5, gf6_6, gf7_0, gf7_1, gf7_2, gf7_3, gf7_4, gf7_5, pf0_0, pf0_1, pf0_2, pf1_0, pf1_1, pf1_2, pf1_3, pf1_4, pf1_5, pf1_6, pf1_7, pf1_8, pf1_9, pf1_10, pf1_11, pf2_0, pf2_1, pf2_2, pf3_0, pf3_1, pf4_0, pf4_1, pf4_2, pf5_0, pf5_1, pf5_2, pf5_3, pf6_0, pf6_1, pf6_2, pf6_3, pf6_4, pf6_5, pf6_6, pf7_0, pf7_1, pf7_2, pf7_3, pf7_4, pf7_5, ht]
    rw [if_pos ((nI_l1 (by omega) (by omega)).mpr (by omega))]
    exact hX
  | succ n ih =>
    intro i hn
    rw [s55_12]
    simp only [s55_0, s55_1, s55_4, s55_6, s55_7, s55_8, s55_9, s55_10, s55_14, s55_15, s55_18, s55_21, s55_22, s55_23, s55_26, s55_27, s55_28, s55_31, s55_35, s55_37, s55_38, s55_40, s55_42, s55_43, s55_46, s55_48, s55_49, s55_50, s55_53, s55_54, s55_56, s55_57, s55_60, s55_63, s55_64, s55_66, s55_68, s55_69, s55_72, s55_75, s55_78, s55_80, is_O, opt_s, opt_n, cat_0, cat_i, cat_r, true_and, Nat.zero_le, Nat.reduceAdd, Nat.reduceLeDiff, al_I, as_I, rl_R, ln_I, ln_R, nI_add, pk_mul, g_set, set_set, not_false_eq_true, gf0_0, gf0_1, gf0_2, gf1_0, gf1_1, gf1_2, gf1_3, gf1_4, gf1_5, gf1_6, gf1_7, gf1_8, gf1_9, gf1_10, gf1_11, gf2_0, gf2_1, gf2_2, gf3_0, gf3_1, gf4_0, gf4_1, gf4_2, gf5_0, gf5_1, gf5_2, gf5_3, gf6_0, gf6_1, gf6_2, gf6_3, gf6_4, gf6_5, gf6_6, gf7_0, gf7_1, gf7_2, gf7_3, gf7_4, gf7_5, pf0_0, pf0_1, pf0_2, pf1_0, pf1_1, pf1_2, pf1_3, pf1_4, pf1_5, pf1_6, pf1_7, pf1_8, pf1_9, pf1_10, pf1_11, pf2_0, pf2_1, pf2_2, pf3_0, pf3_1, pf4_0, pf4_1, pf4_2, pf5_0, pf5_1, pf5_2, pf5_3, pf6_0, pf6_1, pf6_2, pf6_3, pf6_4, pf6_5, pf6_6, pf7_0, pf7_1, pf7_2, pf7_3, pf7_4, pf7_5, ht, ← Nat.pow_succ]
    rw [if_neg (fun z => absurd ((nI_l1 (by omega) (by omega)).mp z) (by omega))]
    exact ih (i + 1) (by omega)
theorem l_fc40 {fd r0 : Nat} (hv : vP P o) (ht : ex_g h t = some (oTx c0 c1 c2 P o w)) (tw : ¬ t = w) (tr : ¬ t = r0) (wr' : ¬ w = r0) (tf : ¬ t = fd) (wf : ¬ w = fd) (rf' : ¬ r0 = fd) (hX : ∀ H fw ff, ch [w, r0, fd] h H → ex_g H w = some (cI P fw) → ex_g H fd = some (cI 42 ff) → (∀ i, i < (cL P o).length → ff i = nI ((cL P o).getD i 0)) → X (some (.int (nI (cL P o).length))) H) : ∀ (n cd : Nat) (H : ex_Hp) (fw fr ff : Nat → Int32), n + cd = bs o ^ P → ch [w, r0, fd] h H → ex_g H w = some (cI P fw) → ex_g H r0 = some (cI P fr) → ex_g H fd = some (cI 42 ff) → (∀ i, i < cIx P o cd → ff i = nI ((cL P o).getD i 0)) → ex_W 55 40 [.ref t, .ref fd, .ref r0, .int (nI (bs o ^ P)), .int (nI (cIx P o cd)), .int (nI cd)] [] H X := by
  obtain ⟨p1, p2, p3, p4, p5, p6, p7, p8⟩ := vP0 hv
  intro n
  induction n with
  | zero =>
    intro cd H fw fr ff hn hH hw hr hf hff
    obtain rfl : cd = bs o ^ P := by omega
    rw [p5] at hff ⊢
    rw [s55_40]
    simp only [s55_0, s55_1, s55_4, s55_6, s55_7, s55_8, s55_9, s55_10, s55_12, s55_14, s55_15, s55_18, s55_21, s55_22, s55_23, s55_26, s55_27, s55_28, s55_31, s55_34, s55_35, s55_37, s55_38, s55_42, s55_43, s55_46, s55_48, s55_49, s55_50, s55_53, s55_54, s55_56, s55_57, s55_60, s55_63, s55_64, s55_66, s55_68, s55_69, s55_75, s55_78, s55_80, is_O, opt_s, opt_n, cat_0, cat_i, cat_r, true_and, Nat.zero_le, Nat.reduceAdd, Nat.reduceLeDiff, al_I, as_I, rl_R, ln_I, ln_R, nI_add, pk_mul, g_set, set_set, not_false_eq_true, gf0_0, gf0_1, gf0_2, gf1_0, gf1_1, gf1_2, gf1_3, gf1_4, gf1_5, gf1_6, gf1_7, gf1_8, gf1_9, gf1_10, gf1_11, gf2_0, gf2_1, gf2_2, gf3_0, gf3_1, gf4_0, gf4_1, gf4_2, gf5_0, gf5_1, gf5_2, gf5_3, gf6_0, gf6_1, gf6_2, gf6_3, gf6_4, gf6_5, gf6_6, gf7_0, gf7_1, gf7_2, gf7_3, gf7_4, gf7_5, pf0_0, pf0_1, pf0_2, pf1_0, pf1_1, pf1_2, pf1_3, pf1_4, pf1_5, pf1_6, pf1_7, pf1_8, pf1_9, pf1_10, pf1_11, pf2_0, pf2_1, pf2_2, pf3_0, pf3_1, pf4_0, pf4_1, pf4_2, pf5_0, pf5_1, pf5_2, pf5_3, pf6_0, pf6_1, pf6_2, pf6_3, pf6_4, pf6_5, pf6_6, pf7_0, pf7_1, pf7_2, pf7_3, pf7_4, pf7_5, hf]
    rw [if_pos ((nI_l1 (by omega) (by omega)).mpr (by omega))]
    exact hX H fw ff hH hw hf hff
  | succ n ih =>
    intro cd H fw fr ff hn hH hw hr hf hff
    have hcd : cd < bs o ^ P := by omega
    have hle := vPl hv hcd
    have gt : ex_g H t = some (oTx c0 c1 c2 P o w) := by
      rw [hH.2.2 t (by simp [tw, tr, tf])]
      exact ht
    rw [s55_40]
    simp only [s55_0, s55_1, s55_4, s55_6, s55_7, s55_8, s55_9, s55_10, s55_12, s55_14, s55_15, s55_18, s55_21, s55_22, s55_23, s55_26, s55_27, s55_28, s55_31, s55_34, s55_35, s55_37, s55_38, s55_42, s55_43, s55_46, s55_48, s55_49, s55_50, s55_53, s55_54, s55_56, s55_57, s55_60, s55_63, s55_64, s55_66, s55_68, s55_69, s55_75, s55_78, s55_80, is_O, opt_s, opt_n, cat_0, cat_i, cat_r, true_and, Nat.zero_le, Nat.reduceAdd, Nat.reduceLeDiff, al_I, as_I, rl_R, ln_I, ln_R, nI_add, pk_mul, g_set, set_set, not_false_eq_true, gf0_0, gf0_1, gf0_2, gf1_0, gf1_1, gf1_2, gf1_3, gf1_4, gf1_5, gf1_6, gf1_7, gf1_8, gf1_9, gf1_10, gf1_11, gf2_0, gf2_1, gf2_2, gf3_0, gf3_1, gf4_0, gf4_1, gf4_2, gf5_0, gf5_1, gf5_2, gf5_3, gf6_0, gf6_1, gf6_2, gf6_3, gf6_4, gf6_5, gf6_6, gf7_0, gf7_1, gf7_2, gf7_3, gf7_4, gf7_5, pf0_0, pf0_1, pf0_2, pf1_0, pf1_1, pf1_2, pf1_3, pf1_4, pf1_5, pf1_6, pf1_7, pf1_8, pf1_9, pf1_10, pf1_11, pf2_0, pf2_1, pf2_2, pf3_0, pf3_1, pf4_0, pf4_1, pf4_2, pf5_0, pf5_1, pf5_2, pf5_3, pf6_0, pf6_1, pf6_2, pf6_3, pf6_4, pf6_5, pf6_6, pf7_0, pf7_1, pf7_2, pf7_3, pf7_4, pf7_5, hf, gt]
    rw [if_neg (fun z => absurd ((nI_l1 (by omega) (by omega)).mp z) (by omega))]
    by_cases h42 : cIx P o cd = 42
    · have : (cL P o).length = 42 := by omega
      rw [if_pos ((nI_l1 (by omega) (by omega)).mpr (by omega)), h42]
      rw [h42, ← this] at hff
      rw [← this]
      exact hX H fw ff hH hw hf hff
    · rw [if_neg (fun z => absurd ((nI_l1 (by omega) (by omega)).mp z) (by omega))]
      refine m_read hv hcd gt tw tr wr' hw hr (fun K fw' fr' hK hw' hr' hrow => ?_)
      have hf' : ex_g K fd = some (cI 42 ff) := by
        rw [hK.2.2 fd (by simp [Ne.symm wf, Ne.symm rf'])]
        exact hf
      have hHK : ch [w, r0, fd] h K := hH.trans (hK.sub (by simp))
      cases hk : okc o (rdc (bs o) P cd [] [] 0) with
      | true =>
        obtain ⟨⟨a1, a2, a3⟩, _⟩ := vPs1 hv hcd hk
        simp only [s55_0, s55_1, s55_4, s55_6, s55_7, s55_8, s55_9, s55_10, s55_12, s55_14, s55_15, s55_18, s55_21, s55_22, s55_23, s55_26, s55_27, s55_28, s55_31, s55_34, s55_35, s55_37, s55_38, s55_42, s55_43, s55_46, s55_48, s55_49, s55_50, s55_53, s55_54, s55_56, s55_57, s55_60, s55_63, s55_64, s55_66, s55_68, s55_69, s55_75, s55_78, s55_80, is_O, opt_s, opt_n, cat_0, cat_i, cat_r, true_and, Nat.zero_le, Nat.reduceAdd, Nat.reduceLeDiff, al_I, as_I, rl_R, ln_I, ln_R, nI_add, pk_mul, g_set, set_set, not_false_eq_true, gf0_0, gf0_1, gf0_2, gf1_0, gf1_1, gf1_2, gf1_3, gf1_4, gf1_5, gf1_6, gf1_7, gf1_8, gf1_9, gf1_10, gf1_11, gf2_0, gf2_1, gf2_2, gf3_0, gf3_1, gf4_0, gf4_1, gf4_2, gf5_0, gf5_1, gf5_2, gf5_3, gf6_0, gf6_1, gf6_2, gf6_3, gf6_4, gf6_5, gf6_6, gf7_0, gf7_1, gf7_2, gf7_3, gf7_4, gf7_5, pf0_0, pf0_1, pf0_2, pf1_0, pf1_1, pf1_2, pf1_3, pf1_4, pf1_5, pf1_6, pf1_7, pf1_8, pf1_9, pf1_10, pf1_11, pf2_0, pf2_1, pf2_2, pf3_0, pf3_1, pf4_0, pf4_1, pf4_2, pf5_0, pf5_1, pf5_2, pf5_3, pf6_0, pf6_1, pf6_2, pf6_3, pf6_4, pf6_5, pf6_6, pf7_0, pf7_1, pf7_2, pf7_3, pf7_4, pf7_5]
        rw [if_neg (show ¬ bI true = nI 0 by decide)]
        simp only [is_O, opt_s, opt_n, cat_0, cat_i, cat_r, true_and, Nat.zero_le, Nat.reduceAdd, Nat.reduceLeDiff, al_I, as_I, rl_R, ln_I, ln_R, nI_add, pk_mul, g_set, set_set, not_false_eq_true, gf0_0, gf0_1, gf0_2, gf1_0, gf1_1, gf1_2, gf1_3, gf1_4, gf1_5, gf1_6, gf1_7, gf1_8, gf1_9, gf1_10, gf1_11, gf2_0, gf2_1, gf2_2, gf3_0, gf3_1, gf4_0, gf4_1, gf4_2, gf5_0, gf5_1, gf5_2, gf5_3, gf6_0, gf6_1, gf6_2, gf6_3, gf6_4, gf6_5, gf6_6, gf7_0, gf7_1, gf7_2, gf7_3, gf7_4, gf7_5, pf0_0, pf0_1, pf0_2, pf1_0, pf1_1, pf1_2, pf1_3, pf1_4, pf1_5, pf1_6, pf1_7, pf1_8, pf1_9, pf1_10, pf1_11, pf2_0, pf2_1, pf2_2, pf3_0, pf3_1, pf4_0, pf4_1, pf4_2, pf5_0, pf5_1, pf5_2, pf5_3, pf6_0, pf6_1, pf6_2, pf6_3, pf6_4, pf6_5, pf6_6, pf7_0, pf7_1, pf7_2, pf7_3, pf7_4, pf7_5, hf', xi_n (show cIx P o cd < 42 by omega) (show 42 < 2147483648 by decide), s55_72, s55_75]
        rw [← a1]
        refine ih (cd + 1) _ fw' fr' (upd ff (cIx P o cd) (nI cd)) (by omega) (hHK.set (by simp)) (by rw [g_ne wf]; exact hw') (by rw [g_ne rf']; exact hr') g_set (fun i hi => ?_)
        by_cases hc : i = cIx P o cd
        · rw [hc, pk_us, a2]
        · rw [pk_un hc]
          exact hff i (by omega)
      | false =>
        have a1 := vPn hv hcd (by rw [hk]; decide)
        simp only [s55_0, s55_1, s55_4, s55_6, s55_7, s55_8, s55_9, s55_10, s55_12, s55_14, s55_15, s55_18, s55_21, s55_22, s55_23, s55_26, s55_27, s55_28, s55_31, s55_34, s55_35, s55_37, s55_38, s55_42, s55_43, s55_46, s55_48, s55_49, s55_50, s55_53, s55_54, s55_56, s55_57, s55_60, s55_63, s55_64, s55_66, s55_68, s55_69, s55_75, s55_78, s55_80, is_O, opt_s, opt_n, cat_0, cat_i, cat_r, true_and, Nat.zero_le, Nat.reduceAdd, Nat.reduceLeDiff, al_I, as_I, rl_R, ln_I, ln_R, nI_add, pk_mul, g_set, set_set, not_false_eq_true, gf0_0, gf0_1, gf0_2, gf1_0, gf1_1, gf1_2, gf1_3, gf1_4, gf1_5, gf1_6, gf1_7, gf1_8, gf1_9, gf1_10, gf1_11, gf2_0, gf2_1, gf2_2, gf3_0, gf3_1, gf4_0, gf4_1, gf4_2, gf5_0, gf5_1, gf5_2, gf5_3, gf6_0, gf6_1, gf6_2, gf6_3, gf6_4, gf6_5, gf6_6, gf7_0, gf7_1, gf7_2, gf7_3, gf7_4, gf7_5, pf0_0, pf0_1, pf0_2, pf1_0, pf1_1, pf1_2, pf1_3, pf1_4, pf1_5, pf1_6, pf1_7, pf1_8, pf1_9, pf1_10, pf1_11, pf2_0, pf2_1, pf2_2, pf3_0, pf3_1, pf4_0, pf4_1, pf4_2, pf5_0, pf5_1, pf5_2, pf5_3, pf6_0, pf6_1, pf6_2, pf6_3, pf6_4, pf6_5, pf6_6, pf7_0, pf7_1, pf7_2, pf7_3, pf7_4, pf7_5]
        rw [if_pos (show bI false = nI 0 by decide)]
        simp only [is_O, opt_s, opt_n, cat_0, cat_i, cat_r, true_and, Nat.zero_le, Nat.reduceAdd, Nat.reduceLeDiff, al_I, as_I, rl_R, ln_I, ln_R, nI_add, pk_mul, g_set, set_set, not_false_eq_true, gf0_0, gf0_1, gf0_2, gf1_0, gf1_1, gf1_2, gf1_3, gf1_4, gf1_5, gf1_6, gf1_7, gf1_8, gf1_9, gf1_10, gf1_11, gf2_0, gf2_1, gf2_2, gf3_0, gf3_1, gf4_0, gf4_1, gf4_2, gf5_0, gf5_1, gf5_2, gf5_3, gf6_0, gf6_1, gf6_2, gf6_3, gf6_4, gf6_5, gf6_6, gf7_0, gf7_1, gf7_2, gf7_3, gf7_4, gf7_5, pf0_0, pf0_1, pf0_2, pf1_0, pf1_1, pf1_2, pf1_3, pf1_4, pf1_5, pf1_6, pf1_7, pf1_8, pf1_9, pf1_10, pf1_11, pf2_0, pf2_1, pf2_2, pf3_0, pf3_1, pf4_0, pf4_1, pf4_2, pf5_0, pf5_1, pf5_2, pf5_3, pf6_0, pf6_1, pf6_2, pf6_3, pf6_4, pf6_5, pf6_6, pf7_0, pf7_1, pf7_2, pf7_3, pf7_4, pf7_5, s55_72, s55_75]
        rw [← a1]
        exact ih (cd + 1) K fw' fr' ff (by omega) hHK hw' hr' hf' (fun i hi => hff i (by omega))
end C3
