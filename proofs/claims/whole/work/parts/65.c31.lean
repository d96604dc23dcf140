/-! THE CLASS AS A WHOLE: sums -/
theorem pilB_z {v p lo x : Nat} {L R : Nat → Nat} (h1 : 1 ≤ v) (h2 : v ≤ 5) (hx : x < tC v) : ∀ (n b : Nat) (W : Nat → Nat), n + b = tC v → (∀ d, tC v ≤ d → W d = 0) → ∀ d, tC v ≤ d → pilB v p lo L R x n b W d = 0 := by
  intro n
  induction n with
  | zero => intro b W _ hW d hd; exact hW d hd
  | succ n ih =>
    intro b W hn hW d hd
    rw [pilB]
    refine ih (b + 1) _ (by omega) (fun e he => ?_) d hd
    have := (tP_lt h1 h2 hx (show b < tC v by omega)).1
    unfold updN
    rw [if_neg (by omega)]
    exact hW e he
theorem pilA_z {v p lo : Nat} {L R : Nat → Nat} (h1 : 1 ≤ v) (h2 : v ≤ 5) : ∀ (n x : Nat) (W : Nat → Nat), n + x = tC v → (∀ d, tC v ≤ d → W d = 0) → ∀ d, tC v ≤ d → pilA v p lo L R n x W d = 0 := by
  intro n
  induction n with
  | zero => intro b W _ hW d hd; exact hW d hd
  | succ n ih =>
    intro x W hn hW d hd
    rw [pilA]
    exact ih (x + 1) _ (by omega) (pilB_z h1 h2 (by omega) (tC v) 0 W (by omega) hW) d hd
theorem pil_0 {v p lo d : Nat} {L R : Nat → Nat} (h1 : 1 ≤ v) (h2 : v ≤ 5) (hd : tC v ≤ d) : pil v p lo L R d = 0 := pilA_z h1 h2 (tC v) 0 _ (by omega) (fun _ _ => rfl) d hd
theorem cntP_c {W W2 : Nat → Nat} : ∀ n, (∀ d, d < n → W d = W2 d) → cntP W n = cntP W2 n := by
  intro n
  induction n with
  | zero => intro _; rfl
  | succ n ih => intro hd; rw [cntP, cntP, ih (fun d h => hd d (by omega)), hd n (by omega)]
section C31
variable {h H : ex_Hp} {X : Option Value → ex_Hp → Prop} {ρ ι : Nat → Option Nat} {N v p lo a : Nat} {F : Nat → Int32} {S : Nat → Nat → Nat} {I : Nat → Option cSt}
theorem STT.row2 {s sh i : Nat} {g : Nat → Int32} {W : Nat → Nat} (hS : STT s sh p lo S h) (hi : i < 5) (hc : ∀ q, s ≤ q → q < s + 9 → ¬ q = s + 4 + i → ex_g H q = ex_g h q) (hg : ex_g H (s + 4 + i) = some (cI 42 g)) (hW : ∀ d, d < 42 → g d = nI (W d)) : STT s sh p lo (fun q d => if q = i then W d else S q d) H := by
  obtain ⟨a1, a2, ⟨fp, a3, a4⟩, a5, a6⟩ := hS
  refine ⟨?_, ?_, ⟨fp, ?_, a4⟩, ?_, fun j hj => ?_⟩
  · rw [hc _ (by omega) (by omega) (by omega)]; exact a1
  · rw [hc _ (by omega) (by omega) (by omega)]; exact a2
  · rw [hc _ (by omega) (by omega) (by omega)]; exact a3
  · rw [hc _ (by omega) (by omega) (by omega)]; exact a5
  · by_cases hji : j = i
    · subst hji
      exact ⟨g, hg, fun d hd => (hW d hd).trans (congrArg nI (if_pos rfl).symm)⟩
    · obtain ⟨f, b1, b2⟩ := a6 j hj
      exact ⟨f, by rw [hc _ (by omega) (by omega) (by omega)]; exact b1, fun d hd => (b2 d hd).trans (congrArg nI (if_neg hji).symm)⟩
/-- what sums read -/
theorem CX.en (hC : CX ρ ι N F v p lo S I h) (ha : ρ v = some a) : EN v a 42 p lo h ∧ (a = 5 ∧ a + eO v + 9 = 42 ∨ 86 ≤ a) ∧ ex_g h 52 = some (oAl 52) ∧ isI 53 h ∧ isI 54 h ∧ isI 55 h := by
  obtain ⟨a', fc, w', fp, ha', hD, hpl, g1, g42, g43, g44, hfp, g45, ga, ga1, ga4, hfc, ga5, gp, gq⟩ := hC.get
  rw [ha] at ha'
  cases ha'
  obtain ⟨_, _, ⟨_, _, _, _, _, b4, b5, _⟩, _⟩ := hC
  exact ⟨⟨g42, g43, ⟨fp, g44, hfp⟩, g45, hD⟩, hpl, b4, b5⟩
theorem CX.rw {i : Nat} (hC : CX ρ ι N F v p lo S I h) (hi : i < 5) : rowF (46 + i) 0 (S i) h ∧ (∀ d, S i d < p) ∧ (∀ d, tC v ≤ d → S i d = 0) := by
  obtain ⟨f, f1, f2⟩ := hC.sum hi
  have := hC.2.1.2.2.2
  exact ⟨⟨f, f1, fun d _ hd => f2 d hd⟩, fun d => (this i hi d).1, fun d => (this i hi d).2⟩
theorem okA42 {i : Nat} (hi : i < 5) (hpl : a = 5 ∧ a + eO v + 9 = 42 ∨ 86 ≤ a) : okA v a 42 (46 + i) := ⟨by omega, by omega⟩
theorem CX.sums {i : Nat} {W : Nat → Nat} {f : Nat → Int32} (hC : CX ρ ι N F v p lo S I h) (ha : ρ v = some a) (hi : i < 5) (hW : ∀ d, W d < p) (hc : chX v a [53, 54, 55, 46 + i] h H) (hE : EN v a 42 p lo H) (hg : ex_g H (46 + i) = some (cI 42 f)) (hf : ∀ d, d < 42 → f d = nI (if d < tC v then W d else 0)) (i1 : isI 53 H) (i2 : isI 54 H) (i3 : isI 55 H) : CX ρ ι N F v p lo (setS S i (tC v) W) I H ∧ chC h H := by
  have hpl := (hC.en ha).2.1
  obtain ⟨c1, c2, ⟨a', c3, b1, b2, b3, b4, _, ⟨d, r, n, b8⟩, ⟨T, b9⟩⟩, c4⟩ := hC
  rw [ha] at c3
  cases c3
  have hq : ∀ q, ¬ q = 53 → ¬ q = 54 → ¬ q = 55 → ¬ q = 46 + i → (q < a + eO v ∨ a + eO v + 4 ≤ q) → ex_g H q = ex_g h q := fun q z1 z2 z3 z4 z5 => hc.2.2 q (by simp [z1, z2, z3, z4]) z5
  have hok := c2.2.2.2
  try dsimp only at hok
  have hS := b3.row2 (H := H) (W := fun d => if d < tC v then W d else 0) hi (fun q z1 z2 z3 => hq q (by omega) (by omega) (by omega) (by omega) (by omega)) hg hf
  have hS2 := hS.ext (S2 := setS S i (tC v) W) (fun q hq5 d hd => by
    unfold setS
    try dsimp only
    by_cases e : q = i
    · rw [if_pos e]
      by_cases e2 : d < tC v
      · rw [if_pos ⟨e, e2⟩, if_pos e2]
      · rw [if_neg (fun z => e2 z.2), if_neg e2]
        exact (hok q hq5 d).2 (by omega)
    · rw [if_neg (fun z => e z.1), if_neg e])
  refine ⟨⟨c1, ⟨c2.1, c2.2.1, c2.2.2.1, fun q hq5 d => ?_⟩, ⟨a, ha, (hq _ (by omega) (by omega) (by omega) (by omega) (by omega)).trans b1, (hq _ (by omega) (by omega) (by omega) (by omega) (by omega)).trans b2, hS2, (hq _ (by omega) (by omega) (by omega) (by omega) (by omega)).trans b4, ⟨i1, i2, i3⟩, ⟨d, r, n, (hq _ (by omega) (by omega) (by omega) (by omega) (by omega)).trans b8⟩, ⟨T, b9.fr (fun q z1 z2 => hq q (by omega) (by omega) (by omega) (by omega) (by omega))⟩⟩, ?_⟩, chC.same hc.1 hc.2.1 (fun q z => hq q (by omega) (by omega) (by omega) (by omega) (by omega))⟩
  · try dsimp only
    unfold setS
    by_cases e : q = i ∧ d < tC v
    · rw [if_pos e]
      exact ⟨hW d, fun z => by omega⟩
    · rw [if_neg e]
      exact hok q hq5 d
  · exact c4.fr (v := v) hc.1 c2.1.1 c2.1.2 ha hE.2.2.2.2 (fun q z1 z2 => hq q (by omega) (by omega) (by omega) (by omega) (by omega))
theorem x_give {i : Nat} {W : Nat → Nat} (hC : CX ρ ι N F v p lo (setS S i (tC v) W) I h) (hi : i < 5) (hX : X (some (.int (nI (cntP W (tC v))))) h) : ex_W 47 0 [.ref 42, .int (nI i), oU, oU, oU, oU, oU] [] h X := by
  have h1 := hC.2.1.1.1
  have h2 := hC.2.1.1.2
  have hp2 := hC.2.1.2.1.2.1
  have hok := hC.2.1.2.2.2
  try dsimp only at h1 h2 hp2 hok
  have hTc := tC_le h1 h2
  obtain ⟨_, _, ⟨a, _, _, _, b3, _⟩, _⟩ := hC
  refine m_aboveZero hi b3 (fun d => by have := (hok i hi d).1; omega) ?_
  have e := cnt_42 (W := setS S i (tC v) W i) (C := tC v) (fun d hd => (hok i hi d).2 hd) (42 - tC v)
  rw [show tC v + (42 - tC v) = 42 by omega] at e
  rw [e, cntP_c (W2 := W) (tC v) (fun d hd => by unfold setS; rw [if_pos ⟨rfl, hd⟩])]
  exact hX
theorem x_put {x y z : Int32} (hC : CX ρ ι N F v p lo S I h) (hX1 : isPut v p x y z = nI 1 → ∀ H, chC h H → CX ρ ι N F v p lo (setS S (ix x) (tC v) (updN (S (ix x)) (ix y) (ix z))) I H → X (some (.int (nI (S (ix x) (ix y))))) H) (hX2 : ¬ isPut v p x y z = nI 1 → X (some (.int (isPut v p x y z))) h) : ex_W 72 0 [.ref 1, .int x, .int y, .int z, oU] [] h X := by
  obtain ⟨a, fc, w', fp, ha, hD, hpl, g1, g42, g43, g44, hfp, g45, ga, ga1, ga4, hfc, ga5, gp, gq⟩ := hC.get
  obtain ⟨hE, _, gal, i1, i2, i3⟩ := hC.en ha
  have h1 := hC.2.1.1.1
  have h2 := hC.2.1.1.2
  obtain ⟨_, ⟨hp, hp2, hpr⟩, hlo, hok⟩ := hC.2.1
  try dsimp only at h1 h2 hp hp2 hlo hok
  have hTc := tC_le h1 h2
  unfold isPut at hX1 hX2
  by_cases hx : isW 0 4 x
  · by_cases hy : isW 0 (tC v - 1) y
    · rw [if_pos ⟨hx, hy⟩] at hX1 hX2
      by_cases hz : isW 0 (p - 1) z
      · obtain ⟨_, q2, q3⟩ := isW_e (by decide) (by omega) hx
        obtain ⟨_, r2, r3⟩ := isW_e (by decide) (by omega) hy
        obtain ⟨_, t2, t3⟩ := isW_e (by decide) (by omega) hz
        have hi : ix x < 5 := by omega
        obtain ⟨f, f1, f2⟩ := hC.sum hi
        rw [if_pos hz] at hX1
        simp only [s72_0, s72_1, s72_2, s72_5, s72_8, s72_9, s72_10, s72_13, s72_16, s72_17, s72_18, s72_19, s72_20, s72_23, s72_26, s72_28, s72_29, s72_30, s72_33, s72_36, s72_37, s72_38, s72_39, s72_40, s72_42, s72_43, s72_46, s72_49, s72_50, s72_51, s72_52, s72_53, s72_54, s72_56, is_O, opt_s, opt_n, cat_0, cat_i, cat_r, true_and, Nat.zero_le, Nat.reduceAdd, Nat.reduceLeDiff, al_I, as_I, rl_R, ln_I, ln_R, nI_add, pk_mul, g_set, set_set, not_false_eq_true, gf0_0, gf0_1, gf0_2, gf1_0, gf1_1, gf1_2, gf1_3, gf1_4, gf1_5, gf1_6, gf1_7, gf1_8, gf1_9, gf1_10, gf1_11, gf2_0, gf2_1, gf2_2, gf3_0, gf3_1, gf4_0, gf4_1, gf4_2, gf5_0, gf5_1, gf5_2, gf5_3, gf6_0, gf6_1, gf6_2, gf6_3, gf6_4, gf6_5, gf6_6, gf7_0, gf7_1, gf7_2, gf7_3, gf7_4, gf7_5, pf0_0, pf0_1, pf0_2, pf1_0, pf1_1, pf1_2, pf1_3, pf1_4, pf1_5, pf1_6, pf1_7, pf1_8, pf1_9, pf1_10, pf1_11, pf2_0, pf2_1, pf2_2, pf3_0, pf3_1, pf4_0, pf4_1, pf4_2, pf5_0, pf5_1, pf5_2, pf5_3, pf6_0, pf6_1, pf6_2, pf6_3, pf6_4, pf6_5, pf6_6, pf7_0, pf7_1, pf7_2, pf7_3, pf7_4, pf7_5, m_cS, if_pos hx, m_cD hC, if_pos hy, m_cN hC, if_pos hz, i10, i10n, not_true_eq_false, if_false, if_true, g1, g42, g45]
        rw [← q3, ← r3, ← t3]
        simp only [xi_n (show ix x < 5 by omega) (show 5 < 2147483648 by decide), sr42 hi, s72_0, s72_1, s72_2, s72_5, s72_8, s72_9, s72_10, s72_13, s72_16, s72_17, s72_18, s72_19, s72_20, s72_23, s72_26, s72_28, s72_29, s72_30, s72_33, s72_36, s72_37, s72_38, s72_39, s72_40, s72_42, s72_43, s72_46, s72_49, s72_50, s72_51, s72_52, s72_53, s72_54, s72_56, is_O, opt_s, opt_n, cat_0, cat_i, cat_r, true_and, Nat.zero_le, Nat.reduceAdd, Nat.reduceLeDiff, al_I, as_I, rl_R, ln_I, ln_R, nI_add, pk_mul, g_set, set_set, not_false_eq_true, gf0_0, gf0_1, gf0_2, gf1_0, gf1_1, gf1_2, gf1_3, gf1_4, gf1_5, gf1_6, gf1_7, gf1_8, gf1_9, gf1_10, gf1_11, gf2_0, gf2_1, gf2_2, gf3_0, gf3_1, gf4_0, gf4_1, gf4_2, gf5_0, gf5_1, gf5_2, gf5_3, gf6_0, gf6_1, gf6_2, gf6_3, gf6_4, gf6_5, gf6_6, gf7_0, gf7_1, gf7_2, gf7_3, gf7_4, gf7_5, pf0_0, pf0_1, pf0_2, pf1_0, pf1_1, pf1_2, pf1_3, pf1_4, pf1_5, pf1_6, pf1_7, pf1_8, pf1_9, pf1_10, pf1_11, pf2_0, pf2_1, pf2_2, pf3_0, pf3_1, pf4_0, pf4_1, pf4_2, pf5_0, pf5_1, pf5_2, pf5_3, pf6_0, pf6_1, pf6_2, pf6_3, pf6_4, pf6_5, pf6_6, pf7_0, pf7_1, pf7_2, pf7_3, pf7_4, pf7_5, f1, xi_n (show ix y < 42 by omega) (show 42 < 2147483648 by decide), g1, g42, g45]
        obtain ⟨e1, e2⟩ := hC.sums (H := ex_set h (46 + ix x) (cI 42 (upd f (ix y) (nI (ix z))))) (W := updN (S (ix x)) (ix y) (ix z)) ha hi (fun d => by
          unfold updN
          split
          · omega
          · exact (hok _ hi d).1) (chX.rfl'.set (by simp)) (hE.set h1 h2 (okA42 hi hpl)) g_set (fun d hd => by
          by_cases e : d = ix y
          · rw [e, pk_us, if_pos (by omega)]
            exact congrArg nI (if_pos rfl).symm
          · rw [pk_un e, f2 d hd]
            by_cases e2 : d < tC v
            · rw [if_pos e2]
              exact congrArg nI (if_neg e).symm
            · rw [if_neg e2, (hok _ hi d).2 (by omega)]) (by obtain ⟨k, i1⟩ := i1; exact ⟨k, (g_ne (by omega)).trans i1⟩) (by obtain ⟨k, i1⟩ := i2; exact ⟨k, (g_ne (by omega)).trans i1⟩) (by obtain ⟨k, i1⟩ := i3; exact ⟨k, (g_ne (by omega)).trans i1⟩)
        have hX := hX1 rfl _ e2 e1
        rw [f2 (ix y) (by omega)]
        exact hX
      · rw [if_neg hz] at hX2
        simp only [s72_0, s72_1, s72_2, s72_5, s72_8, s72_9, s72_10, s72_13, s72_16, s72_17, s72_18, s72_19, s72_20, s72_23, s72_26, s72_28, s72_29, s72_30, s72_33, s72_36, s72_37, s72_38, s72_39, s72_40, s72_42, s72_43, s72_46, s72_49, s72_50, s72_51, s72_52, s72_53, s72_54, s72_56, is_O, opt_s, opt_n, cat_0, cat_i, cat_r, true_and, Nat.zero_le, Nat.reduceAdd, Nat.reduceLeDiff, al_I, as_I, rl_R, ln_I, ln_R, nI_add, pk_mul, g_set, set_set, not_false_eq_true, gf0_0, gf0_1, gf0_2, gf1_0, gf1_1, gf1_2, gf1_3, gf1_4, gf1_5, gf1_6, gf1_7, gf1_8, gf1_9, gf1_10, gf1_11, gf2_0, gf2_1, gf2_2, gf3_0, gf3_1, gf4_0, gf4_1, gf4_2, gf5_0, gf5_1, gf5_2, gf5_3, gf6_0, gf6_1, gf6_2, gf6_3, gf6_4, gf6_5, gf6_6, gf7_0, gf7_1, gf7_2, gf7_3, gf7_4, gf7_5, pf0_0, pf0_1, pf0_2, pf1_0, pf1_1, pf1_2, pf1_3, pf1_4, pf1_5, pf1_6, pf1_7, pf1_8, pf1_9, pf1_10, pf1_11, pf2_0, pf2_1, pf2_2, pf3_0, pf3_1, pf4_0, pf4_1, pf4_2, pf5_0, pf5_1, pf5_2, pf5_3, pf6_0, pf6_1, pf6_2, pf6_3, pf6_4, pf6_5, pf6_6, pf7_0, pf7_1, pf7_2, pf7_3, pf7_4, pf7_5, m_cS, if_pos hx, m_cD hC, if_pos hy, m_cN hC, if_neg hz, i10, i10n, not_true_eq_false, if_false, if_true, g1]
        exact hX2 (by decide)
    · rw [if_neg (fun q => hy q.2)] at hX2
      simp only [s72_0, s72_1, s72_2, s72_5, s72_8, s72_9, s72_10, s72_13, s72_16, s72_17, s72_18, s72_19, s72_20, s72_23, s72_26, s72_28, s72_29, s72_30, s72_33, s72_36, s72_37, s72_38, s72_39, s72_40, s72_42, s72_43, s72_46, s72_49, s72_50, s72_51, s72_52, s72_53, s72_54, s72_56, is_O, opt_s, opt_n, cat_0, cat_i, cat_r, true_and, Nat.zero_le, Nat.reduceAdd, Nat.reduceLeDiff, al_I, as_I, rl_R, ln_I, ln_R, nI_add, pk_mul, g_set, set_set, not_false_eq_true, gf0_0, gf0_1, gf0_2, gf1_0, gf1_1, gf1_2, gf1_3, gf1_4, gf1_5, gf1_6, gf1_7, gf1_8, gf1_9, gf1_10, gf1_11, gf2_0, gf2_1, gf2_2, gf3_0, gf3_1, gf4_0, gf4_1, gf4_2, gf5_0, gf5_1, gf5_2, gf5_3, gf6_0, gf6_1, gf6_2, gf6_3, gf6_4, gf6_5, gf6_6, gf7_0, gf7_1, gf7_2, gf7_3, gf7_4, gf7_5, pf0_0, pf0_1, pf0_2, pf1_0, pf1_1, pf1_2, pf1_3, pf1_4, pf1_5, pf1_6, pf1_7, pf1_8, pf1_9, pf1_10, pf1_11, pf2_0, pf2_1, pf2_2, pf3_0, pf3_1, pf4_0, pf4_1, pf4_2, pf5_0, pf5_1, pf5_2, pf5_3, pf6_0, pf6_1, pf6_2, pf6_3, pf6_4, pf6_5, pf6_6, pf7_0, pf7_1, pf7_2, pf7_3, pf7_4, pf7_5, m_cS, if_pos hx, m_cD hC, if_neg hy, i10, i10n, not_true_eq_false, if_false, if_true, g1]
      exact hX2 (by decide)
  · rw [if_neg (fun q => hx q.1)] at hX2
    simp only [s72_0, s72_1, s72_2, s72_5, s72_8, s72_9, s72_10, s72_13, s72_16, s72_17, s72_18, s72_19, s72_20, s72_23, s72_26, s72_28, s72_29, s72_30, s72_33, s72_36, s72_37, s72_38, s72_39, s72_40, s72_42, s72_43, s72_46, s72_49, s72_50, s72_51, s72_52, s72_53, s72_54, s72_56, is_O, opt_s, opt_n, cat_0, cat_i, cat_r, true_and, Nat.zero_le, Nat.reduceAdd, Nat.reduceLeDiff, al_I, as_I, rl_R, ln_I, ln_R, nI_add, pk_mul, g_set, set_set, not_false_eq_true, gf0_0, gf0_1, gf0_2, gf1_0, gf1_1, gf1_2, gf1_3, gf1_4, gf1_5, gf1_6, gf1_7, gf1_8, gf1_9, gf1_10, gf1_11, gf2_0, gf2_1, gf2_2, gf3_0, gf3_1, gf4_0, gf4_1, gf4_2, gf5_0, gf5_1, gf5_2, gf5_3, gf6_0, gf6_1, gf6_2, gf6_3, gf6_4, gf6_5, gf6_6, gf7_0, gf7_1, gf7_2, gf7_3, gf7_4, gf7_5, pf0_0, pf0_1, pf0_2, pf1_0, pf1_1, pf1_2, pf1_3, pf1_4, pf1_5, pf1_6, pf1_7, pf1_8, pf1_9, pf1_10, pf1_11, pf2_0, pf2_1, pf2_2, pf3_0, pf3_1, pf4_0, pf4_1, pf4_2, pf5_0, pf5_1, pf5_2, pf5_3, pf6_0, pf6_1, pf6_2, pf6_3, pf6_4, pf6_5, pf6_6, pf7_0, pf7_1, pf7_2, pf7_3, pf7_4, pf7_5, m_cS, if_neg hx, i10, i10n, not_true_eq_false, if_false, if_true, g1]
    exact hX2 (by decide)
theorem x_trace {x : Int32} (hC : CX ρ ι N F v p lo S I h) (hX : X (some (.int (aTr v p lo S x))) h) : ex_W 77 0 [.ref 1, .int x] [] h X := by
  obtain ⟨a, fc, w', fp, ha, hD, hpl, g1, g42, g43, g44, hfp, g45, ga, ga1, ga4, hfc, ga5, gp, gq⟩ := hC.get
  obtain ⟨hE, _, gal, i1, i2, i3⟩ := hC.en ha
  have h1 := hC.2.1.1.1
  have h2 := hC.2.1.1.2
  obtain ⟨_, ⟨hp, hp2, hpr⟩, hlo, hok⟩ := hC.2.1
  try dsimp only at h1 h2 hp hp2 hlo hok
  unfold aTr at hX
  by_cases hx : isW 0 4 x
  · obtain ⟨_, q2, q3⟩ := isW_e (by decide) (by omega) hx
    have hi : ix x < 5 := by omega
    obtain ⟨k1, k2, k3⟩ := hC.rw hi
    rw [if_pos hx] at hX
    simp only [s77_0, s77_1, s77_2, s77_5, s77_8, s77_9, s77_10, s77_11, s77_14, s77_15, s77_18, s77_19, s77_22, s77_25, s77_26, s77_27, s77_30, is_O, opt_s, opt_n, cat_0, cat_i, cat_r, true_and, Nat.zero_le, Nat.reduceAdd, Nat.reduceLeDiff, al_I, as_I, rl_R, ln_I, ln_R, nI_add, pk_mul, g_set, set_set, not_false_eq_true, gf0_0, gf0_1, gf0_2, gf1_0, gf1_1, gf1_2, gf1_3, gf1_4, gf1_5, gf1_6, gf1_7, gf1_8, gf1_9, gf1_10, gf1_11, gf2_0, gf2_1, gf2_2, gf3_0, gf3_1, gf4_0, gf4_1, gf4_2, gf5_0, gf5_1, gf5_2, gf5_3, gf6_0, gf6_1, gf6_2, gf6_3, gf6_4, gf6_5, gf6_6, gf7_0, gf7_1, gf7_2, gf7_3, gf7_4, gf7_5, pf0_0, pf0_1, pf0_2, pf1_0, pf1_1, pf1_2, pf1_3, pf1_4, pf1_5, pf1_6, pf1_7, pf1_8, pf1_9, pf1_10, pf1_11, pf2_0, pf2_1, pf2_2, pf3_0, pf3_1, pf4_0, pf4_1, pf4_2, pf5_0, pf5_1, pf5_2, pf5_3, pf6_0, pf6_1, pf6_2, pf6_3, pf6_4, pf6_5, pf6_6, pf7_0, pf7_1, pf7_2, pf7_3, pf7_4, pf7_5, m_cS, if_pos hx, i10, i10n, not_true_eq_false, if_false, if_true, g1, g42, g45, gal]
    rw [← q3]
    simp only [xi_n (show ix x < 5 by omega) (show 5 < 2147483648 by decide), sr42 hi, s77_0, s77_1, s77_2, s77_5, s77_8, s77_9, s77_10, s77_11, s77_14, s77_15, s77_18, s77_19, s77_22, s77_25, s77_26, s77_27, s77_30, is_O, opt_s, opt_n, cat_0, cat_i, cat_r, true_and, Nat.zero_le, Nat.reduceAdd, Nat.reduceLeDiff, al_I, as_I, rl_R, ln_I, ln_R, nI_add, pk_mul, g_set, set_set, not_false_eq_true, gf0_0, gf0_1, gf0_2, gf1_0, gf1_1, gf1_2, gf1_3, gf1_4, gf1_5, gf1_6, gf1_7, gf1_8, gf1_9, gf1_10, gf1_11, gf2_0, gf2_1, gf2_2, gf3_0, gf3_1, gf4_0, gf4_1, gf4_2, gf5_0, gf5_1, gf5_2, gf5_3, gf6_0, gf6_1, gf6_2, gf6_3, gf6_4, gf6_5, gf6_6, gf7_0, gf7_1, gf7_2, gf7_3, gf7_4, gf7_5, pf0_0, pf0_1, pf0_2, pf1_0, pf1_1, pf1_2, pf1_3, pf1_4, pf1_5, pf1_6, pf1_7, pf1_8, pf1_9, pf1_10, pf1_11, pf2_0, pf2_1, pf2_2, pf3_0, pf3_1, pf4_0, pf4_1, pf4_2, pf5_0, pf5_1, pf5_2, pf5_3, pf6_0, pf6_1, pf6_2, pf6_3, pf6_4, pf6_5, pf6_6, pf7_0, pf7_1, pf7_2, pf7_3, pf7_4, pf7_5, gal]
    refine m_close h1 h2 hp hp2 hE k2 k1 ?_
    simp only [s77_0, s77_1, s77_2, s77_5, s77_8, s77_9, s77_10, s77_11, s77_14, s77_15, s77_18, s77_19, s77_22, s77_25, s77_26, s77_27, s77_30, is_O, opt_s, opt_n, cat_0, cat_i, cat_r, true_and, Nat.zero_le, Nat.reduceAdd, Nat.reduceLeDiff, al_I, as_I, rl_R, ln_I, ln_R, nI_add, pk_mul, g_set, set_set, not_false_eq_true, gf0_0, gf0_1, gf0_2, gf1_0, gf1_1, gf1_2, gf1_3, gf1_4, gf1_5, gf1_6, gf1_7, gf1_8, gf1_9, gf1_10, gf1_11, gf2_0, gf2_1, gf2_2, gf3_0, gf3_1, gf4_0, gf4_1, gf4_2, gf5_0, gf5_1, gf5_2, gf5_3, gf6_0, gf6_1, gf6_2, gf6_3, gf6_4, gf6_5, gf6_6, gf7_0, gf7_1, gf7_2, gf7_3, gf7_4, gf7_5, pf0_0, pf0_1, pf0_2, pf1_0, pf1_1, pf1_2, pf1_3, pf1_4, pf1_5, pf1_6, pf1_7, pf1_8, pf1_9, pf1_10, pf1_11, pf2_0, pf2_1, pf2_2, pf3_0, pf3_1, pf4_0, pf4_1, pf4_2, pf5_0, pf5_1, pf5_2, pf5_3, pf6_0, pf6_1, pf6_2, pf6_3, pf6_4, pf6_5, pf6_6, pf7_0, pf7_1, pf7_2, pf7_3, pf7_4, pf7_5]
    exact hX
  · rw [if_neg hx] at hX
    simp only [s77_0, s77_1, s77_2, s77_5, s77_8, s77_9, s77_10, s77_11, s77_14, s77_15, s77_18, s77_19, s77_22, s77_25, s77_26, s77_27, s77_30, is_O, opt_s, opt_n, cat_0, cat_i, cat_r, true_and, Nat.zero_le, Nat.reduceAdd, Nat.reduceLeDiff, al_I, as_I, rl_R, ln_I, ln_R, nI_add, pk_mul, g_set, set_set, not_false_eq_true, gf0_0, gf0_1, gf0_2, gf1_0, gf1_1, gf1_2, gf1_3, gf1_4, gf1_5, gf1_6, gf1_7, gf1_8, gf1_9, gf1_10, gf1_11, gf2_0, gf2_1, gf2_2, gf3_0, gf3_1, gf4_0, gf4_1, gf4_2, gf5_0, gf5_1, gf5_2, gf5_3, gf6_0, gf6_1, gf6_2, gf6_3, gf6_4, gf6_5, gf6_6, gf7_0, gf7_1, gf7_2, gf7_3, gf7_4, gf7_5, pf0_0, pf0_1, pf0_2, pf1_0, pf1_1, pf1_2, pf1_3, pf1_4, pf1_5, pf1_6, pf1_7, pf1_8, pf1_9, pf1_10, pf1_11, pf2_0, pf2_1, pf2_2, pf3_0, pf3_1, pf4_0, pf4_1, pf4_2, pf5_0, pf5_1, pf5_2, pf5_3, pf6_0, pf6_1, pf6_2, pf6_3, pf6_4, pf6_5, pf6_6, pf7_0, pf7_1, pf7_2, pf7_3, pf7_4, pf7_5, m_cS, if_neg hx, i10, i10n, not_true_eq_false, if_false, if_true, g1]
    exact hX
end C31
