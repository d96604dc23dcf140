/-! THE CLASS: sums -/
/-- what is read while sums are worked with: a State's head, its numbers, its Diagrams -/
def EN (v a s p lo : Nat) (h : ex_Hp) : Prop := ex_g h s = some (cO 4 [.ref a, .ref (s + 1), .ref (s + 3)]) ∧ ex_g h (s + 1) = some (oNum (nI p) (nI lo) (s + 2)) ∧ (∃ fp, ex_g h (s + 2) = some (cI 6 fp) ∧ ∀ j, j < 6 → fp j = nI (lo ^ j % p)) ∧ ex_g h (s + 3) = some (cR 2 5 (srow s)) ∧ DG v a h
abbrev okA (v a s r : Nat) : Prop := (r < s ∨ s + 4 ≤ r) ∧ (r < a ∨ a + eO v + 9 ≤ r)
section C15
variable {h H : ex_Hp} {X : Option Value → ex_Hp → Prop} {v a s p lo r0 r1 r2 : Nat} {L R W T : Nat → Nat}
theorem EN.fr (h1 : 1 ≤ v) (h2 : v ≤ 5) (hE : EN v a s p lo h) (hq : ∀ q, (s ≤ q ∧ q < s + 4) ∨ (a ≤ q ∧ q < a + eO v + 8) → ex_g H q = ex_g h q) : EN v a s p lo H := by
  obtain ⟨e1, e2, ⟨fp, e3, e4⟩, e5, e6⟩ := hE
  refine ⟨?_, ?_, ⟨fp, ?_, e4⟩, ?_, e6.fr h1 h2 (fun q z1 z2 => hq q (Or.inr ⟨z1, z2⟩))⟩
  · rw [hq _ (by omega)]; exact e1
  · rw [hq _ (by omega)]; exact e2
  · rw [hq _ (by omega)]; exact e3
  · rw [hq _ (by omega)]; exact e5
theorem EN.set {r : Nat} {c : ex_AC} (h1 : 1 ≤ v) (h2 : v ≤ 5) (hE : EN v a s p lo h) (hr : okA v a s r) : EN v a s p lo (ex_set h r c) := hE.fr h1 h2 (fun q hq => g_ne (by omega))
theorem EN.size (h1 : 1 ≤ v) (h2 : v ≤ 5) (hE : EN v a s p lo h) : ∃ c1 c2 c3 c4 c5 c6 d1 d2 d3 d4 d5 d6 d7 d8 d9 d10 d11, ex_g h a = some (cO 1 [d1, d2, .ref (a + 1), d3, d4, d5, d6, d7, d8, d9, d10, d11]) ∧ ex_g h (a + 1) = some (cO 6 [.int (nI (tC v)), c1, c2, c3, c4, c5, c6]) := by
  obtain ⟨fc', w2, u1, u2, u3, u4⟩ := hE.2.2.2.2.1.txt h1 h2
  exact ⟨_, _, _, _, _, _, _, _, _, _, _, _, _, _, _, _, _, hE.2.2.2.2.1.1, u1⟩
/-- a row of sums that holds numbers from a place on -/
def rowF (r t : Nat) (L : Nat → Nat) (h : ex_Hp) : Prop := ∃ f, ex_g h r = some (cI 42 f) ∧ ∀ d, t ≤ d → d < 42 → f d = nI (L d)
theorem rowF.set {r t : Nat} {f : Nat → Int32} {x : Int32} (hr : rowF r t L H) (h0 : ex_g H r0 = some (cI 42 f)) : rowF r (t + 1) L (ex_set H r0 (cI 42 (upd f t x))) := by
  obtain ⟨g, g1, g2⟩ := hr
  by_cases hc : r = r0
  · subst hc
    rw [h0] at g1
    cases g1
    exact ⟨_, g_set, fun d z1 z2 => by rw [pk_un (by omega)]; exact g2 d (by omega) z2⟩
  · exact ⟨g, (g_ne hc).trans g1, fun d z1 z2 => g2 d (by omega) z2⟩
theorem l_add (h1 : 1 ≤ v) (h2 : v ≤ 5) (hp : 2 ≤ p) (hp2 : p ≤ 101) (ok0 : okA v a s r0) (hL : ∀ d, L d < p) (hR : ∀ d, R d < p) {l0 : Value} (hX : ∀ H f, ch [r0] h H → EN v a s p lo H → ex_g H r0 = some (cI 42 f) → (∀ d, d < 42 → f d = nI (if d < tC v then (L d + R d) % p else T d)) → X none H) : ∀ (m t : Nat) (H : ex_Hp) (f : Nat → Int32), m + t = tC v → ch [r0] h H → EN v a s p lo H → rowF r1 t L H → rowF r2 t R H → ex_g H r0 = some (cI 42 f) → (∀ d, d < 42 → f d = nI (if d < t then (L d + R d) % p else T d)) → ex_W 1 3 [l0, .ref s, .ref r0, .ref r1, .ref r2, .int (nI t)] [] H X := by
  have hC := tC_le h1 h2
  intro m
  induction m with
  | zero =>
    intro t H f hm hH hE k1 k2 gf hf
    obtain rfl : t = tC v := by omega
    obtain ⟨_, _, _, _, _, _, _, _, _, _, _, _, _, _, _, _, _, ga, gt⟩ := hE.size h1 h2
    have gs := hE.1
    rw [s1_3]
    simp only [s1_0, s1_1, s1_5, s1_6, s1_9, s1_12, s1_15, s1_18, s1_19, s1_21, s1_22, s1_25, s1_26, s1_28, s1_29, s1_31, s1_33, s1_34, s1_37, s1_38, s1_41, s1_44, is_O, opt_s, opt_n, cat_0, cat_i, cat_r, true_and, Nat.zero_le, Nat.reduceAdd, Nat.reduceLeDiff, al_I, as_I, rl_R, ln_I, ln_R, nI_add, pk_mul, g_set, set_set, not_false_eq_true, gf0_0, gf0_1, gf0_2, gf1_0, gf1_1, gf1_2, gf1_3, gf1_4, gf1_5, gf1_6, gf1_7, gf1_8, gf1_9, gf1_10, gf1_11, gf2_0, gf2_1, gf2_2, gf3_0, gf3_1, gf4_0, gf4_1, gf4_2, gf5_0, gf5_1, gf5_2, gf5_3, gf6_0, gf6_1, gf6_2, gf6_3, gf6_4, gf6_5, gf6_6, gf7_0, gf7_1, gf7_2, gf7_3, gf7_4, gf7_5, pf0_0, pf0_1, pf0_2, pf1_0, pf1_1, pf1_2, pf1_3, pf1_4, pf1_5, pf1_6, pf1_7, pf1_8, pf1_9, pf1_10, pf1_11, pf2_0, pf2_1, pf2_2, pf3_0, pf3_1, pf4_0, pf4_1, pf4_2, pf5_0, pf5_1, pf5_2, pf5_3, pf6_0, pf6_1, pf6_2, pf6_3, pf6_4, pf6_5, pf6_6, pf7_0, pf7_1, pf7_2, pf7_3, pf7_4, pf7_5, gs, ga, gt]
    rw [if_pos ((nI_l1 (by omega) (by omega)).mpr (by omega))]
    exact hX H f hH hE gf hf
  | succ m ih =>
    intro t H f hm hH hE k1 k2 gf hf
    obtain ⟨_, _, _, _, _, _, _, _, _, _, _, _, _, _, _, _, _, ga, gt⟩ := hE.size h1 h2
    have gs := hE.1
    have gn := hE.2.1
    obtain ⟨f1, a1, a2⟩ := id k1
    obtain ⟨f2, b1, b2⟩ := id k2
    have q1 := hL t
    have q2 := hR t
    rw [s1_3]
    simp only [s1_0, s1_1, s1_5, s1_6, s1_9, s1_12, s1_15, s1_18, s1_19, s1_21, s1_22, s1_25, s1_26, s1_28, s1_29, s1_31, s1_33, s1_34, s1_37, s1_38, s1_41, s1_44, is_O, opt_s, opt_n, cat_0, cat_i, cat_r, true_and, Nat.zero_le, Nat.reduceAdd, Nat.reduceLeDiff, al_I, as_I, rl_R, ln_I, ln_R, nI_add, pk_mul, g_set, set_set, not_false_eq_true, gf0_0, gf0_1, gf0_2, gf1_0, gf1_1, gf1_2, gf1_3, gf1_4, gf1_5, gf1_6, gf1_7, gf1_8, gf1_9, gf1_10, gf1_11, gf2_0, gf2_1, gf2_2, gf3_0, gf3_1, gf4_0, gf4_1, gf4_2, gf5_0, gf5_1, gf5_2, gf5_3, gf6_0, gf6_1, gf6_2, gf6_3, gf6_4, gf6_5, gf6_6, gf7_0, gf7_1, gf7_2, gf7_3, gf7_4, gf7_5, pf0_0, pf0_1, pf0_2, pf1_0, pf1_1, pf1_2, pf1_3, pf1_4, pf1_5, pf1_6, pf1_7, pf1_8, pf1_9, pf1_10, pf1_11, pf2_0, pf2_1, pf2_2, pf3_0, pf3_1, pf4_0, pf4_1, pf4_2, pf5_0, pf5_1, pf5_2, pf5_3, pf6_0, pf6_1, pf6_2, pf6_3, pf6_4, pf6_5, pf6_6, pf7_0, pf7_1, pf7_2, pf7_3, pf7_4, pf7_5, gs, ga, gt, gn, a1, b1, gf, xi_n (show t < 42 by omega) (show 42 < 2147483648 by decide), a2 t (by omega) (by omega), b2 t (by omega) (by omega), m_add gn, nF_n hp (show p < 32768 by omega) (show L t + R t < 2147483648 by omega)]
    rw [if_neg (fun z => absurd ((nI_l1 (by omega) (by omega)).mp z) (by omega))]
    refine ih (t + 1) _ (upd f t (nI ((L t + R t) % p))) (by omega) (hH.set (by simp)) (hE.set h1 h2 ok0) (k1.set gf) (k2.set gf) g_set (fun d hd => ?_)
    by_cases hc : d = t
    · rw [hc, pk_us, if_pos (by omega)]
    · rw [pk_un hc, hf d hd]
      by_cases hc2 : d < t
      · rw [if_pos hc2, if_pos (by omega)]
      · rw [if_neg hc2, if_neg (by omega)]
theorem l_sub (h1 : 1 ≤ v) (h2 : v ≤ 5) (hp : 2 ≤ p) (hp2 : p ≤ 101) (ok0 : okA v a s r0) (hL : ∀ d, L d < p) (hR : ∀ d, R d < p) {l0 : Value} (hX : ∀ H f, ch [r0] h H → EN v a s p lo H → ex_g H r0 = some (cI 42 f) → (∀ d, d < 42 → f d = nI (if d < tC v then (L d + p - R d) % p else T d)) → X none H) : ∀ (m t : Nat) (H : ex_Hp) (f : Nat → Int32), m + t = tC v → ch [r0] h H → EN v a s p lo H → rowF r1 t L H → rowF r2 t R H → ex_g H r0 = some (cI 42 f) → (∀ d, d < 42 → f d = nI (if d < t then (L d + p - R d) % p else T d)) → ex_W 2 3 [l0, .ref s, .ref r0, .ref r1, .ref r2, .int (nI t)] [] H X := by
  have hC := tC_le h1 h2
  intro m
  induction m with
  | zero =>
    intro t H f hm hH hE k1 k2 gf hf
    obtain rfl : t = tC v := by omega
    obtain ⟨_, _, _, _, _, _, _, _, _, _, _, _, _, _, _, _, _, ga, gt⟩ := hE.size h1 h2
    have gs := hE.1
    rw [s2_3]
    simp only [s2_0, s2_1, s2_5, s2_6, s2_9, s2_12, s2_15, s2_18, s2_19, s2_21, s2_22, s2_25, s2_26, s2_28, s2_29, s2_31, s2_33, s2_34, s2_37, s2_38, s2_41, s2_44, is_O, opt_s, opt_n, cat_0, cat_i, cat_r, true_and, Nat.zero_le, Nat.reduceAdd, Nat.reduceLeDiff, al_I, as_I, rl_R, ln_I, ln_R, nI_add, pk_mul, g_set, set_set, not_false_eq_true, gf0_0, gf0_1, gf0_2, gf1_0, gf1_1, gf1_2, gf1_3, gf1_4, gf1_5, gf1_6, gf1_7, gf1_8, gf1_9, gf1_10, gf1_11, gf2_0, gf2_1, gf2_2, gf3_0, gf3_1, gf4_0, gf4_1, gf4_2, gf5_0, gf5_1, gf5_2, gf5_3, gf6_0, gf6_1, gf6_2, gf6_3, gf6_4, gf6_5, gf6_6, gf7_0, gf7_1, gf7_2, gf7_3, gf7_4, gf7_5, pf0_0, pf0_1, pf0_2, pf1_0, pf1_1, pf1_2, pf1_3, pf1_4, pf1_5, pf1_6, pf1_7, pf1_8, pf1_9, pf1_10, pf1_11, pf2_0, pf2_1, pf2_2, pf3_0, pf3_1, pf4_0, pf4_1, pf4_2, pf5_0, pf5_1, pf5_2, pf5_3, pf6_0, pf6_1, pf6_2, pf6_3, pf6_4, pf6_5, pf6_6, pf7_0, pf7_1, pf7_2, pf7_3, pf7_4, pf7_5, gs, ga, gt]
    rw [if_pos ((nI_l1 (by omega) (by omega)).mpr (by omega))]
    exact hX H f hH hE gf hf
  | succ m ih =>
    intro t H f hm hH hE k1 k2 gf hf
    obtain ⟨_, _, _, _, _, _, _, _, _, _, _, _, _, _, _, _, _, ga, gt⟩ := hE.size h1 h2
    have gs := hE.1
    have gn := hE.2.1
    obtain ⟨f1, a1, a2⟩ := id k1
    obtain ⟨f2, b1, b2⟩ := id k2
    have q1 := hL t
    have q2 := hR t
    rw [s2_3]
    simp only [s2_0, s2_1, s2_5, s2_6, s2_9, s2_12, s2_15, s2_18, s2_19, s2_21, s2_22, s2_25, s2_26, s2_28, s2_29, s2_31, s2_33, s2_34, s2_37, s2_38, s2_41, s2_44, is_O, opt_s, opt_n, cat_0, cat_i, cat_r, true_and, Nat.zero_le, Nat.reduceAdd, Nat.reduceLeDiff, al_I, as_I, rl_R, ln_I, ln_R, nI_add, pk_mul, g_set, set_set, not_false_eq_true, gf0_0, gf0_1, gf0_2, gf1_0, gf1_1, gf1_2, gf1_3, gf1_4, gf1_5, gf1_6, gf1_7, gf1_8, gf1_9, gf1_10, gf1_11, gf2_0, gf2_1, gf2_2, gf3_0, gf3_1, gf4_0, gf4_1, gf4_2, gf5_0, gf5_1, gf5_2, gf5_3, gf6_0, gf6_1, gf6_2, gf6_3, gf6_4, gf6_5, gf6_6, gf7_0, gf7_1, gf7_2, gf7_3, gf7_4, gf7_5, pf0_0, pf0_1, pf0_2, pf1_0, pf1_1, pf1_2, pf1_3, pf1_4, pf1_5, pf1_6, pf1_7, pf1_8, pf1_9, pf1_10, pf1_11, pf2_0, pf2_1, pf2_2, pf3_0, pf3_1, pf4_0, pf4_1, pf4_2, pf5_0, pf5_1, pf5_2, pf5_3, pf6_0, pf6_1, pf6_2, pf6_3, pf6_4, pf6_5, pf6_6, pf7_0, pf7_1, pf7_2, pf7_3, pf7_4, pf7_5, gs, ga, gt, gn, a1, b1, gf, xi_n (show t < 42 by omega) (show 42 < 2147483648 by decide), a2 t (by omega) (by omega), b2 t (by omega) (by omega), m_sub gn, nF_s hp (show p < 32768 by omega) (show L t < 1073741824 by omega) (Nat.le_of_lt q2)]
    rw [if_neg (fun z => absurd ((nI_l1 (by omega) (by omega)).mp z) (by omega))]
    refine ih (t + 1) _ (upd f t (nI ((L t + p - R t) % p))) (by omega) (hH.set (by simp)) (hE.set h1 h2 ok0) (k1.set gf) (k2.set gf) g_set (fun d hd => ?_)
    by_cases hc : d = t
    · rw [hc, pk_us, if_pos (by omega)]
    · rw [pk_un hc, hf d hd]
      by_cases hc2 : d < t
      · rw [if_pos hc2, if_pos (by omega)]
      · rw [if_neg hc2, if_neg (by omega)]
theorem l_scale (h1 : 1 ≤ v) (h2 : v ≤ 5) (hp : 2 ≤ p) (hp2 : p ≤ 101) (ok0 : okA v a s r0) (hL : ∀ d, L d < p) {z : Nat} (hz : z < p) {l0 : Value} (hX : ∀ H f, ch [r0] h H → EN v a s p lo H → ex_g H r0 = some (cI 42 f) → (∀ d, d < 42 → f d = nI (if d < tC v then L d * z % p else T d)) → X none H) : ∀ (m t : Nat) (H : ex_Hp) (f : Nat → Int32), m + t = tC v → ch [r0] h H → EN v a s p lo H → rowF r1 t L H → ex_g H r0 = some (cI 42 f) → (∀ d, d < 42 → f d = nI (if d < t then L d * z % p else T d)) → ex_W 3 3 [l0, .ref s, .ref r0, .ref r1, .int (nI z), .int (nI t)] [] H X := by
  have hC := tC_le h1 h2
  intro m
  induction m with
  | zero =>
    intro t H f hm hH hE k1 gf hf
    obtain rfl : t = tC v := by omega
    obtain ⟨_, _, _, _, _, _, _, _, _, _, _, _, _, _, _, _, _, ga, gt⟩ := hE.size h1 h2
    have gs := hE.1
    rw [s3_3]
    simp only [s3_0, s3_1, s3_5, s3_6, s3_9, s3_12, s3_15, s3_18, s3_19, s3_21, s3_22, s3_25, s3_26, s3_28, s3_29, s3_31, s3_34, s3_35, s3_38, s3_41, is_O, opt_s, opt_n, cat_0, cat_i, cat_r, true_and, Nat.zero_le, Nat.reduceAdd, Nat.reduceLeDiff, al_I, as_I, rl_R, ln_I, ln_R, nI_add, pk_mul, g_set, set_set, not_false_eq_true, gf0_0, gf0_1, gf0_2, gf1_0, gf1_1, gf1_2, gf1_3, gf1_4, gf1_5, gf1_6, gf1_7, gf1_8, gf1_9, gf1_10, gf1_11, gf2_0, gf2_1, gf2_2, gf3_0, gf3_1, gf4_0, gf4_1, gf4_2, gf5_0, gf5_1, gf5_2, gf5_3, gf6_0, gf6_1, gf6_2, gf6_3, gf6_4, gf6_5, gf6_6, gf7_0, gf7_1, gf7_2, gf7_3, gf7_4, gf7_5, pf0_0, pf0_1, pf0_2, pf1_0, pf1_1, pf1_2, pf1_3, pf1_4, pf1_5, pf1_6, pf1_7, pf1_8, pf1_9, pf1_10, pf1_11, pf2_0, pf2_1, pf2_2, pf3_0, pf3_1, pf4_0, pf4_1, pf4_2, pf5_0, pf5_1, pf5_2, pf5_3, pf6_0, pf6_1, pf6_2, pf6_3, pf6_4, pf6_5, pf6_6, pf7_0, pf7_1, pf7_2, pf7_3, pf7_4, pf7_5, gs, ga, gt]
    rw [if_pos ((nI_l1 (by omega) (by omega)).mpr (by omega))]
    exact hX H f hH hE gf hf
  | succ m ih =>
    intro t H f hm hH hE k1 gf hf
    obtain ⟨_, _, _, _, _, _, _, _, _, _, _, _, _, _, _, _, _, ga, gt⟩ := hE.size h1 h2
    have gs := hE.1
    have gn := hE.2.1
    obtain ⟨f1, a1, a2⟩ := id k1
    have q1 := hL t
    have b0 : L t * z < 2147483648 := by
      have : L t * z ≤ 101 * 101 := Nat.mul_le_mul (by omega) (by omega)
      omega
    rw [s3_3]
    simp only [s3_0, s3_1, s3_5, s3_6, s3_9, s3_12, s3_15, s3_18, s3_19, s3_21, s3_22, s3_25, s3_26, s3_28, s3_29, s3_31, s3_34, s3_35, s3_38, s3_41, is_O, opt_s, opt_n, cat_0, cat_i, cat_r, true_and, Nat.zero_le, Nat.reduceAdd, Nat.reduceLeDiff, al_I, as_I, rl_R, ln_I, ln_R, nI_add, pk_mul, g_set, set_set, not_false_eq_true, gf0_0, gf0_1, gf0_2, gf1_0, gf1_1, gf1_2, gf1_3, gf1_4, gf1_5, gf1_6, gf1_7, gf1_8, gf1_9, gf1_10, gf1_11, gf2_0, gf2_1, gf2_2, gf3_0, gf3_1, gf4_0, gf4_1, gf4_2, gf5_0, gf5_1, gf5_2, gf5_3, gf6_0, gf6_1, gf6_2, gf6_3, gf6_4, gf6_5, gf6_6, gf7_0, gf7_1, gf7_2, gf7_3, gf7_4, gf7_5, pf0_0, pf0_1, pf0_2, pf1_0, pf1_1, pf1_2, pf1_3, pf1_4, pf1_5, pf1_6, pf1_7, pf1_8, pf1_9, pf1_10, pf1_11, pf2_0, pf2_1, pf2_2, pf3_0, pf3_1, pf4_0, pf4_1, pf4_2, pf5_0, pf5_1, pf5_2, pf5_3, pf6_0, pf6_1, pf6_2, pf6_3, pf6_4, pf6_5, pf6_6, pf7_0, pf7_1, pf7_2, pf7_3, pf7_4, pf7_5, gs, ga, gt, gn, a1, gf, xi_n (show t < 42 by omega) (show 42 < 2147483648 by decide), a2 t (by omega) (by omega), m_mul gn, nF_n hp (show p < 32768 by omega) b0]
    rw [if_neg (fun z => absurd ((nI_l1 (by omega) (by omega)).mp z) (by omega))]
    refine ih (t + 1) _ (upd f t (nI (L t * z % p))) (by omega) (hH.set (by simp)) (hE.set h1 h2 ok0) (k1.set gf) g_set (fun d hd => ?_)
    by_cases hc : d = t
    · rw [hc, pk_us, if_pos (by omega)]
    · rw [pk_un hc, hf d hd]
      by_cases hc2 : d < t
      · rw [if_pos hc2, if_pos (by omega)]
      · rw [if_neg hc2, if_neg (by omega)]
theorem m_sAdd {f : Nat → Int32} {l0 : Value} (h1 : 1 ≤ v) (h2 : v ≤ 5) (hp : 2 ≤ p) (hp2 : p ≤ 101) (ok0 : okA v a s r0) (hE : EN v a s p lo h) (hL : ∀ d, L d < p) (hR : ∀ d, R d < p) (k1 : rowF r1 0 L h) (k2 : rowF r2 0 R h) (gf : ex_g h r0 = some (cI 42 f)) (hf : ∀ d, d < 42 → f d = nI (T d)) (hX : ∀ H f, ch [r0] h H → EN v a s p lo H → ex_g H r0 = some (cI 42 f) → (∀ d, d < 42 → f d = nI (if d < tC v then (L d + R d) % p else T d)) → X none H) : ex_W 1 0 [l0, .ref s, .ref r0, .ref r1, .ref r2, oU] [] h X := by
  rw [s1_0, s1_1]
  exact l_add h1 h2 hp hp2 ok0 hL hR hX (tC v) 0 h f (by omega) ch.rfl' hE k1 k2 gf (fun d hd => by rw [if_neg (by omega)]; exact hf d hd)
theorem m_sSub {f : Nat → Int32} {l0 : Value} (h1 : 1 ≤ v) (h2 : v ≤ 5) (hp : 2 ≤ p) (hp2 : p ≤ 101) (ok0 : okA v a s r0) (hE : EN v a s p lo h) (hL : ∀ d, L d < p) (hR : ∀ d, R d < p) (k1 : rowF r1 0 L h) (k2 : rowF r2 0 R h) (gf : ex_g h r0 = some (cI 42 f)) (hf : ∀ d, d < 42 → f d = nI (T d)) (hX : ∀ H f, ch [r0] h H → EN v a s p lo H → ex_g H r0 = some (cI 42 f) → (∀ d, d < 42 → f d = nI (if d < tC v then (L d + p - R d) % p else T d)) → X none H) : ex_W 2 0 [l0, .ref s, .ref r0, .ref r1, .ref r2, oU] [] h X := by
  rw [s2_0, s2_1]
  exact l_sub h1 h2 hp hp2 ok0 hL hR hX (tC v) 0 h f (by omega) ch.rfl' hE k1 k2 gf (fun d hd => by rw [if_neg (by omega)]; exact hf d hd)
theorem m_sScale {f : Nat → Int32} {l0 : Value} {z : Nat} (h1 : 1 ≤ v) (h2 : v ≤ 5) (hp : 2 ≤ p) (hp2 : p ≤ 101) (ok0 : okA v a s r0) (hE : EN v a s p lo h) (hL : ∀ d, L d < p) (hz : z < p) (k1 : rowF r1 0 L h) (gf : ex_g h r0 = some (cI 42 f)) (hf : ∀ d, d < 42 → f d = nI (T d)) (hX : ∀ H f, ch [r0] h H → EN v a s p lo H → ex_g H r0 = some (cI 42 f) → (∀ d, d < 42 → f d = nI (if d < tC v then L d * z % p else T d)) → X none H) : ex_W 3 0 [l0, .ref s, .ref r0, .ref r1, .int (nI z), oU] [] h X := by
  rw [s3_0, s3_1]
  exact l_scale h1 h2 hp hp2 ok0 hL hz hX (tC v) 0 h f (by omega) ch.rfl' hE k1 gf (fun d hd => by rw [if_neg (by omega)]; exact hf d hd)
end C15
