/-! THE CLASS: sums closed, turned over -/
section C16
variable {h H : ex_Hp} {X : Option Value → ex_Hp → Prop} {v a s p lo r r0 r1 r2 al : Nat} {L R W T : Nat → Nat}
theorem l_close (h1 : 1 ≤ v) (h2 : v ≤ 5) (hp : 2 ≤ p) (hp2 : p ≤ 101) (hE : EN v a s p lo h) (hL : ∀ d, L d < p) (k1 : rowF r 0 L h) {l0 : Value} : ∀ (m t acc : Nat) (l5 : Value), m + t = tC v → acc < p → X (some (.int (nI (trc v p lo L m t acc)))) h → ex_W 6 5 [l0, .ref s, .ref r, .int (nI acc), .int (nI t), l5] [] h X := by
  have hC := tC_le h1 h2
  obtain ⟨_, _, _, _, _, _, _, _, _, _, _, _, _, _, _, _, _, ga, gt⟩ := hE.size h1 h2
  have gs := hE.1
  have gn := hE.2.1
  obtain ⟨fp, gp, hfp⟩ := hE.2.2.1
  obtain ⟨f1, a1, a2⟩ := k1
  intro m
  induction m with
  | zero =>
    intro t acc l5 hm ha hX
    rw [s6_5]
    simp only [s6_0, s6_1, s6_2, s6_3, s6_7, s6_8, s6_11, s6_14, s6_17, s6_20, s6_21, s6_24, s6_25, s6_28, s6_30, s6_33, s6_36, s6_38, s6_39, s6_42, s6_43, s6_44, s6_47, s6_48, s6_50, s6_51, s6_53, s6_56, s6_59, s6_60, s6_63, s6_66, s6_67, is_O, opt_s, opt_n, cat_0, cat_i, cat_r, true_and, Nat.zero_le, Nat.reduceAdd, Nat.reduceLeDiff, al_I, as_I, rl_R, ln_I, ln_R, nI_add, pk_mul, g_set, set_set, not_false_eq_true, gf0_0, gf0_1, gf0_2, gf1_0, gf1_1, gf1_2, gf1_3, gf1_4, gf1_5, gf1_6, gf1_7, gf1_8, gf1_9, gf1_10, gf1_11, gf2_0, gf2_1, gf2_2, gf3_0, gf3_1, gf4_0, gf4_1, gf4_2, gf5_0, gf5_1, gf5_2, gf5_3, gf6_0, gf6_1, gf6_2, gf6_3, gf6_4, gf6_5, gf6_6, gf7_0, gf7_1, gf7_2, gf7_3, gf7_4, gf7_5, pf0_0, pf0_1, pf0_2, pf1_0, pf1_1, pf1_2, pf1_3, pf1_4, pf1_5, pf1_6, pf1_7, pf1_8, pf1_9, pf1_10, pf1_11, pf2_0, pf2_1, pf2_2, pf3_0, pf3_1, pf4_0, pf4_1, pf4_2, pf5_0, pf5_1, pf5_2, pf5_3, pf6_0, pf6_1, pf6_2, pf6_3, pf6_4, pf6_5, pf6_6, pf7_0, pf7_1, pf7_2, pf7_3, pf7_4, pf7_5, gs, ga, gt]
    rw [if_pos ((nI_l1 (by omega) (by omega)).mpr (by omega))]
    exact hX
  | succ m ih =>
    intro t acc l5 hm ha hX
    have ht : t < tC v := by omega
    have hcl := (tTu_lt h1 h2 ht).2.1
    have q1 := hL t
    have q2 : lo ^ tCl v t % p < p := Nat.mod_lt _ (by omega)
    have b1 : L t * (lo ^ tCl v t % p) < 2147483648 := by
      have : L t * (lo ^ tCl v t % p) ≤ 101 * 101 := Nat.mul_le_mul (by omega) (by omega)
      omega
    have b2 : L t * (lo ^ tCl v t % p) % p < p := Nat.mod_lt _ (by omega)
    rw [trc] at hX
    rw [s6_5]
    simp only [s6_0, s6_1, s6_2, s6_3, s6_7, s6_8, s6_11, s6_14, s6_17, s6_20, s6_21, s6_24, s6_25, s6_28, s6_30, s6_33, s6_36, s6_38, s6_39, s6_42, s6_43, s6_44, s6_47, s6_48, s6_50, s6_51, s6_53, s6_56, s6_59, s6_60, s6_63, s6_66, s6_67, is_O, opt_s, opt_n, cat_0, cat_i, cat_r, true_and, Nat.zero_le, Nat.reduceAdd, Nat.reduceLeDiff, al_I, as_I, rl_R, ln_I, ln_R, nI_add, pk_mul, g_set, set_set, not_false_eq_true, gf0_0, gf0_1, gf0_2, gf1_0, gf1_1, gf1_2, gf1_3, gf1_4, gf1_5, gf1_6, gf1_7, gf1_8, gf1_9, gf1_10, gf1_11, gf2_0, gf2_1, gf2_2, gf3_0, gf3_1, gf4_0, gf4_1, gf4_2, gf5_0, gf5_1, gf5_2, gf5_3, gf6_0, gf6_1, gf6_2, gf6_3, gf6_4, gf6_5, gf6_6, gf7_0, gf7_1, gf7_2, gf7_3, gf7_4, gf7_5, pf0_0, pf0_1, pf0_2, pf1_0, pf1_1, pf1_2, pf1_3, pf1_4, pf1_5, pf1_6, pf1_7, pf1_8, pf1_9, pf1_10, pf1_11, pf2_0, pf2_1, pf2_2, pf3_0, pf3_1, pf4_0, pf4_1, pf4_2, pf5_0, pf5_1, pf5_2, pf5_3, pf6_0, pf6_1, pf6_2, pf6_3, pf6_4, pf6_5, pf6_6, pf7_0, pf7_1, pf7_2, pf7_3, pf7_4, pf7_5, gs, ga, gt, gn]
    rw [if_neg (fun z => absurd ((nI_l1 (by omega) (by omega)).mp z) (by omega))]
    refine m_closedD h1 h2 ht hE.2.2.2.2.1 ?_
    simp only [s6_0, s6_1, s6_2, s6_3, s6_7, s6_8, s6_11, s6_14, s6_17, s6_20, s6_21, s6_24, s6_25, s6_28, s6_30, s6_33, s6_36, s6_38, s6_39, s6_42, s6_43, s6_44, s6_47, s6_48, s6_50, s6_51, s6_53, s6_56, s6_59, s6_60, s6_63, s6_66, s6_67, is_O, opt_s, opt_n, cat_0, cat_i, cat_r, true_and, Nat.zero_le, Nat.reduceAdd, Nat.reduceLeDiff, al_I, as_I, rl_R, ln_I, ln_R, nI_add, pk_mul, g_set, set_set, not_false_eq_true, gf0_0, gf0_1, gf0_2, gf1_0, gf1_1, gf1_2, gf1_3, gf1_4, gf1_5, gf1_6, gf1_7, gf1_8, gf1_9, gf1_10, gf1_11, gf2_0, gf2_1, gf2_2, gf3_0, gf3_1, gf4_0, gf4_1, gf4_2, gf5_0, gf5_1, gf5_2, gf5_3, gf6_0, gf6_1, gf6_2, gf6_3, gf6_4, gf6_5, gf6_6, gf7_0, gf7_1, gf7_2, gf7_3, gf7_4, gf7_5, pf0_0, pf0_1, pf0_2, pf1_0, pf1_1, pf1_2, pf1_3, pf1_4, pf1_5, pf1_6, pf1_7, pf1_8, pf1_9, pf1_10, pf1_11, pf2_0, pf2_1, pf2_2, pf3_0, pf3_1, pf4_0, pf4_1, pf4_2, pf5_0, pf5_1, pf5_2, pf5_3, pf6_0, pf6_1, pf6_2, pf6_3, pf6_4, pf6_5, pf6_6, pf7_0, pf7_1, pf7_2, pf7_3, pf7_4, pf7_5, gs, gn, m_loopPower hcl gn gp hfp, a1, xi_n (show t < 42 by omega) (show 42 < 2147483648 by decide), a2 t (by omega) (by omega), m_mul gn, nF_n hp (show p < 32768 by omega) b1, m_add gn, nF_n hp (show p < 32768 by omega) (show acc + L t * (lo ^ tCl v t % p) % p < 2147483648 by omega), Nat.add_mod_mod]
    exact ih (t + 1) _ _ (by omega) (Nat.mod_lt _ (by omega)) hX
theorem m_close (h1 : 1 ≤ v) (h2 : v ≤ 5) (hp : 2 ≤ p) (hp2 : p ≤ 101) (hE : EN v a s p lo h) (hL : ∀ d, L d < p) (k1 : rowF r 0 L h) {l0 : Value} (hX : X (some (.int (nI (trc v p lo L (tC v) 0 0)))) h) : ex_W 6 0 [l0, .ref s, .ref r, oU, oU, oU] [] h X := by
  rw [s6_0, s6_1, s6_2, s6_3]
  exact l_close h1 h2 hp hp2 hE hL k1 (tC v) 0 0 _ (by omega) (by omega) hX
theorem EN.ch (h1 : 1 ≤ v) (h2 : v ≤ 5) (hE : EN v a s p lo h) (hd : s + 9 ≤ a ∨ a + eO v + 9 ≤ s) (hc : chD v a h H) (hK : DKw v a (.ref (a + 7 + tC v)) H) : EN v a s p lo H := by
  obtain ⟨e1, e2, ⟨fp, e3, e4⟩, e5, e6⟩ := hE
  refine ⟨?_, ?_, ⟨fp, ?_, e4⟩, ?_, e6.ch h1 h2 hc hK⟩
  · rw [hc.2.2 _ (by omega)]; exact e1
  · rw [hc.2.2 _ (by omega)]; exact e2
  · rw [hc.2.2 _ (by omega)]; exact e3
  · rw [hc.2.2 _ (by omega)]; exact e5
/-- outside of a Diagrams' four rows and of some cells nothing has changed -/
def chX (v a : Nat) (ks : List Nat) (h H : ex_Hp) : Prop := H.1 = h.1 ∧ H.2.1 = h.2.1 ∧ ∀ q, q ∉ ks → (q < a + eO v ∨ a + eO v + 4 ≤ q) → ex_g H q = ex_g h q
theorem chX.rfl' {ks : List Nat} : chX v a ks h h := ⟨rfl, rfl, fun _ _ _ => rfl⟩
theorem chX.D {ks : List Nat} {K : ex_Hp} (p : chX v a ks h H) (q : chD v a H K) : chX v a ks h K := ⟨q.1.trans p.1, q.2.1.trans p.2.1, fun z z1 z2 => (q.2.2 z z2).trans (p.2.2 z z1 z2)⟩
theorem chX.set {ks : List Nat} {q : Nat} {c : ex_AC} (p : chX v a ks h H) (hq : q ∈ ks) : chX v a ks h (ex_set H q c) := ⟨p.1, p.2.1, fun z z1 z2 => by rw [g_ne (fun e => z1 (by rw [e]; exact hq))]; exact p.2.2 z z1 z2⟩
theorem chX.c {ks js : List Nat} {K : ex_Hp} (p : chX v a ks h H) (q : ch js H K) (hs : ∀ z, z ∈ js → z ∈ ks) : chX v a ks h K := ⟨q.1.trans p.1, q.2.1.trans p.2.1, fun z z1 z2 => (q.2.2 z (fun e => z1 (hs z e))).trans (p.2.2 z z1 z2)⟩
theorem rowF.D {t : Nat} {K : ex_Hp} (hr : rowF r t L H) (q : chD v a H K) (ok : r < a ∨ a + eO v + 9 ≤ r) : rowF r t L K := by
  obtain ⟨f, f1, f2⟩ := hr
  exact ⟨f, (q.2.2 r (by omega)).trans f1, f2⟩
theorem rowF.ne {t q : Nat} {c : ex_AC} (hr : rowF r t L H) (hq : ¬ r = q) : rowF r t L (ex_set H q c) := by
  obtain ⟨f, f1, f2⟩ := hr
  exact ⟨f, (g_ne hq).trans f1, f2⟩
abbrev oAl (al : Nat) : ex_AC := cO 0 [.ref (al + 1), .ref (al + 2), .ref (al + 3)]
theorem l_tov (h1 : 1 ≤ v) (h2 : v ≤ 5) (hd : s + 9 ≤ a ∨ a + eO v + 9 ≤ s) (okl : al + 4 ≤ a ∨ a + eO v + 9 ≤ al) (okr : okA v a s (al + 1)) (ok1 : r1 < a ∨ a + eO v + 9 ≤ r1) (n1 : ¬ r1 = al + 1) (hX : ∀ H f, chX v a [al + 1] h H → EN v a s p lo H → ex_g H (al + 1) = some (cI 42 f) → (∀ d, d < 42 → f d = nI (if d < tC v then L (tTu v d) else 0)) → ∀ l4, ex_W 4 50 [.ref al, .ref s, .ref r0, .ref r1, l4] [] H X) (hal : ex_g h al = some (oAl al)) : ∀ (m t : Nat) (H : ex_Hp) (f : Nat → Int32), m + t = tC v → chX v a [al + 1] h H → EN v a s p lo H → rowF r1 0 L H → ex_g H (al + 1) = some (cI 42 f) → (∀ d, d < 42 → f d = nI (if d < tC v ∧ tTu v d < t then L (tTu v d) else 0)) → ex_W 4 11 [.ref al, .ref s, .ref r0, .ref r1, .int (nI t)] [] H X := by
  have hC := tC_le h1 h2
  intro m
  induction m with
  | zero =>
    intro t H f hm hH hE k1 gf hf
    obtain rfl : t = tC v := by omega
    obtain ⟨_, _, _, _, _, _, _, _, _, _, _, _, _, _, _, _, _, ga, gt⟩ := hE.size h1 h2
    have gs := hE.1
    rw [s4_11]
    simp only [s4_0, s4_1, s4_4, s4_5, s4_8, s4_9, s4_13, s4_14, s4_17, s4_20, s4_23, s4_26, s4_27, s4_30, s4_31, s4_34, s4_36, s4_39, s4_40, s4_42, s4_43, s4_44, s4_47, s4_51, s4_54, s4_55, s4_56, s4_57, s4_59, s4_62, is_O, opt_s, opt_n, cat_0, cat_i, cat_r, true_and, Nat.zero_le, Nat.reduceAdd, Nat.reduceLeDiff, al_I, as_I, rl_R, ln_I, ln_R, nI_add, pk_mul, g_set, set_set, not_false_eq_true, gf0_0, gf0_1, gf0_2, gf1_0, gf1_1, gf1_2, gf1_3, gf1_4, gf1_5, gf1_6, gf1_7, gf1_8, gf1_9, gf1_10, gf1_11, gf2_0, gf2_1, gf2_2, gf3_0, gf3_1, gf4_0, gf4_1, gf4_2, gf5_0, gf5_1, gf5_2, gf5_3, gf6_0, gf6_1, gf6_2, gf6_3, gf6_4, gf6_5, gf6_6, gf7_0, gf7_1, gf7_2, gf7_3, gf7_4, gf7_5, pf0_0, pf0_1, pf0_2, pf1_0, pf1_1, pf1_2, pf1_3, pf1_4, pf1_5, pf1_6, pf1_7, pf1_8, pf1_9, pf1_10, pf1_11, pf2_0, pf2_1, pf2_2, pf3_0, pf3_1, pf4_0, pf4_1, pf4_2, pf5_0, pf5_1, pf5_2, pf5_3, pf6_0, pf6_1, pf6_2, pf6_3, pf6_4, pf6_5, pf6_6, pf7_0, pf7_1, pf7_2, pf7_3, pf7_4, pf7_5, gs, ga, gt]
    rw [if_pos ((nI_l1 (by omega) (by omega)).mpr (by omega))]
    refine hX H f hH hE gf (fun d hd => ?_) _
    rw [hf d hd]
    by_cases hc : d < tC v
    · rw [if_pos ⟨hc, (tTu_lt h1 h2 hc).1⟩, if_pos hc]
    · rw [if_neg (fun z => hc z.1), if_neg hc]
  | succ m ih =>
    intro t H f hm hH hE k1 gf hf
    have ht : t < tC v := by omega
    have htu := (tTu_lt h1 h2 ht).1
    obtain ⟨_, _, _, _, _, _, _, _, _, _, _, _, _, _, _, _, _, ga, gt⟩ := hE.size h1 h2
    have gs := hE.1
    have gl : ex_g H al = some (oAl al) := (hH.2.2 al (by simp) (by omega)).trans hal
    rw [s4_11]
    simp only [s4_0, s4_1, s4_4, s4_5, s4_8, s4_9, s4_13, s4_14, s4_17, s4_20, s4_23, s4_26, s4_27, s4_30, s4_31, s4_34, s4_36, s4_39, s4_40, s4_42, s4_43, s4_44, s4_47, s4_51, s4_54, s4_55, s4_56, s4_57, s4_59, s4_62, is_O, opt_s, opt_n, cat_0, cat_i, cat_r, true_and, Nat.zero_le, Nat.reduceAdd, Nat.reduceLeDiff, al_I, as_I, rl_R, ln_I, ln_R, nI_add, pk_mul, g_set, set_set, not_false_eq_true, gf0_0, gf0_1, gf0_2, gf1_0, gf1_1, gf1_2, gf1_3, gf1_4, gf1_5, gf1_6, gf1_7, gf1_8, gf1_9, gf1_10, gf1_11, gf2_0, gf2_1, gf2_2, gf3_0, gf3_1, gf4_0, gf4_1, gf4_2, gf5_0, gf5_1, gf5_2, gf5_3, gf6_0, gf6_1, gf6_2, gf6_3, gf6_4, gf6_5, gf6_6, gf7_0, gf7_1, gf7_2, gf7_3, gf7_4, gf7_5, pf0_0, pf0_1, pf0_2, pf1_0, pf1_1, pf1_2, pf1_3, pf1_4, pf1_5, pf1_6, pf1_7, pf1_8, pf1_9, pf1_10, pf1_11, pf2_0, pf2_1, pf2_2, pf3_0, pf3_1, pf4_0, pf4_1, pf4_2, pf5_0, pf5_1, pf5_2, pf5_3, pf6_0, pf6_1, pf6_2, pf6_3, pf6_4, pf6_5, pf6_6, pf7_0, pf7_1, pf7_2, pf7_3, pf7_4, pf7_5, gs, ga, gt, gl]
    rw [if_neg (fun z => absurd ((nI_l1 (by omega) (by omega)).mp z) (by omega))]
    refine m_turned h1 h2 ht hE.2.2.2.2.1 (fun G hG hKG => ?_)
    obtain ⟨f1, a1, a2⟩ := id (k1.D hG ok1)
    have gf2 : ex_g G (al + 1) = some (cI 42 f) := (hG.2.2 _ (by omega)).trans gf
    simp only [s4_0, s4_1, s4_4, s4_5, s4_8, s4_9, s4_13, s4_14, s4_17, s4_20, s4_23, s4_26, s4_27, s4_30, s4_31, s4_34, s4_36, s4_39, s4_40, s4_42, s4_43, s4_44, s4_47, s4_51, s4_54, s4_55, s4_56, s4_57, s4_59, s4_62, is_O, opt_s, opt_n, cat_0, cat_i, cat_r, true_and, Nat.zero_le, Nat.reduceAdd, Nat.reduceLeDiff, al_I, as_I, rl_R, ln_I, ln_R, nI_add, pk_mul, g_set, set_set, not_false_eq_true, gf0_0, gf0_1, gf0_2, gf1_0, gf1_1, gf1_2, gf1_3, gf1_4, gf1_5, gf1_6, gf1_7, gf1_8, gf1_9, gf1_10, gf1_11, gf2_0, gf2_1, gf2_2, gf3_0, gf3_1, gf4_0, gf4_1, gf4_2, gf5_0, gf5_1, gf5_2, gf5_3, gf6_0, gf6_1, gf6_2, gf6_3, gf6_4, gf6_5, gf6_6, gf7_0, gf7_1, gf7_2, gf7_3, gf7_4, gf7_5, pf0_0, pf0_1, pf0_2, pf1_0, pf1_1, pf1_2, pf1_3, pf1_4, pf1_5, pf1_6, pf1_7, pf1_8, pf1_9, pf1_10, pf1_11, pf2_0, pf2_1, pf2_2, pf3_0, pf3_1, pf4_0, pf4_1, pf4_2, pf5_0, pf5_1, pf5_2, pf5_3, pf6_0, pf6_1, pf6_2, pf6_3, pf6_4, pf6_5, pf6_6, pf7_0, pf7_1, pf7_2, pf7_3, pf7_4, pf7_5, a1, xi_n (show t < 42 by omega) (show 42 < 2147483648 by decide), a2 t (by omega) (by omega), gf2, xi_n (show tTu v t < 42 by omega) (show 42 < 2147483648 by decide)]
    refine ih (t + 1) _ (upd f (tTu v t) (nI (L t))) (by omega) ((hH.D hG).set (by simp)) ((hE.ch h1 h2 hd hG hKG).set h1 h2 okr) ((k1.D hG ok1).ne n1) g_set (fun d hd2 => ?_)
    by_cases hc : d = tTu v t
    · subst hc
      rw [pk_us, tTt h1 h2 ht, if_pos ⟨htu, by omega⟩]
    · rw [pk_un hc, hf d hd2]
      by_cases hc2 : d < tC v ∧ tTu v d < t
      · rw [if_pos hc2, if_pos ⟨hc2.1, by omega⟩]
      · rw [if_neg hc2, if_neg (fun z => by
          have : tTu v d = t := by omega
          exact hc (by rw [← this, tTt h1 h2 z.1]))]
theorem m_turnOver {f0 fr : Nat → Int32} (h1 : 1 ≤ v) (h2 : v ≤ 5) (hd : s + 9 ≤ a ∨ a + eO v + 9 ≤ s) (okl : al + 4 ≤ a ∨ a + eO v + 9 ≤ al) (okr : okA v a s (al + 1)) (ok1 : r1 < a ∨ a + eO v + 9 ≤ r1) (ok0 : okA v a s r0) (n1 : ¬ r1 = al + 1) (n0 : ¬ r0 = al + 1) (na : ¬ r0 = al) (hal : ex_g h al = some (oAl al)) (hE : EN v a s p lo h) (k1 : rowF r1 0 L h) (gr : ex_g h (al + 1) = some (cI 42 fr)) (g0 : ex_g h r0 = some (cI 42 f0)) (hX : ∀ H f, chX v a [al + 1, r0] h H → EN v a s p lo H → ex_g H r0 = some (cI 42 f) → (∀ d, d < 42 → f d = nI (if d < tC v then L (tTu v d) else 0)) → X none H) : ex_W 4 0 [.ref al, .ref s, .ref r0, .ref r1, oU] [] h X := by
  simp only [s4_0, s4_1, s4_4, s4_5, s4_8, s4_9, s4_13, s4_14, s4_17, s4_20, s4_23, s4_26, s4_27, s4_30, s4_31, s4_34, s4_36, s4_39, s4_40, s4_42, s4_43, s4_44, s4_47, s4_50, s4_51, s4_54, s4_55, s4_56, s4_57, s4_59, s4_62, is_O, opt_s, opt_n, cat_0, cat_i, cat_r, true_and, Nat.zero_le, Nat.reduceAdd, Nat.reduceLeDiff, al_I, as_I, rl_R, ln_I, ln_R, nI_add, pk_mul, g_set, set_set, not_false_eq_true, gf0_0, gf0_1, gf0_2, gf1_0, gf1_1, gf1_2, gf1_3, gf1_4, gf1_5, gf1_6, gf1_7, gf1_8, gf1_9, gf1_10, gf1_11, gf2_0, gf2_1, gf2_2, gf3_0, gf3_1, gf4_0, gf4_1, gf4_2, gf5_0, gf5_1, gf5_2, gf5_3, gf6_0, gf6_1, gf6_2, gf6_3, gf6_4, gf6_5, gf6_6, gf7_0, gf7_1, gf7_2, gf7_3, gf7_4, gf7_5, pf0_0, pf0_1, pf0_2, pf1_0, pf1_1, pf1_2, pf1_3, pf1_4, pf1_5, pf1_6, pf1_7, pf1_8, pf1_9, pf1_10, pf1_11, pf2_0, pf2_1, pf2_2, pf3_0, pf3_1, pf4_0, pf4_1, pf4_2, pf5_0, pf5_1, pf5_2, pf5_3, pf6_0, pf6_1, pf6_2, pf6_3, pf6_4, pf6_5, pf6_6, pf7_0, pf7_1, pf7_2, pf7_3, pf7_4, pf7_5, hal]
  refine m_fill (by decide) gr (fun G g hG hg hgx => ?_)
  simp only [s4_0, s4_1, s4_4, s4_5, s4_8, s4_9, s4_13, s4_14, s4_17, s4_20, s4_23, s4_26, s4_27, s4_30, s4_31, s4_34, s4_36, s4_39, s4_40, s4_42, s4_43, s4_44, s4_47, s4_50, s4_51, s4_54, s4_55, s4_56, s4_57, s4_59, s4_62, is_O, opt_s, opt_n, cat_0, cat_i, cat_r, true_and, Nat.zero_le, Nat.reduceAdd, Nat.reduceLeDiff, al_I, as_I, rl_R, ln_I, ln_R, nI_add, pk_mul, g_set, set_set, not_false_eq_true, gf0_0, gf0_1, gf0_2, gf1_0, gf1_1, gf1_2, gf1_3, gf1_4, gf1_5, gf1_6, gf1_7, gf1_8, gf1_9, gf1_10, gf1_11, gf2_0, gf2_1, gf2_2, gf3_0, gf3_1, gf4_0, gf4_1, gf4_2, gf5_0, gf5_1, gf5_2, gf5_3, gf6_0, gf6_1, gf6_2, gf6_3, gf6_4, gf6_5, gf6_6, gf7_0, gf7_1, gf7_2, gf7_3, gf7_4, gf7_5, pf0_0, pf0_1, pf0_2, pf1_0, pf1_1, pf1_2, pf1_3, pf1_4, pf1_5, pf1_6, pf1_7, pf1_8, pf1_9, pf1_10, pf1_11, pf2_0, pf2_1, pf2_2, pf3_0, pf3_1, pf4_0, pf4_1, pf4_2, pf5_0, pf5_1, pf5_2, pf5_3, pf6_0, pf6_1, pf6_2, pf6_3, pf6_4, pf6_5, pf6_6, pf7_0, pf7_1, pf7_2, pf7_3, pf7_4, pf7_5]
  have hEG : EN v a s p lo G := hE.fr h1 h2 (fun q hq => hG.2.2 q (by simp; omega))
  have k1G : rowF r1 0 L G := by
    obtain ⟨f, f1, f2⟩ := k1
    exact ⟨f, (hG.2.2 r1 (by simp [n1])).trans f1, f2⟩
  refine l_tov (h := h) h1 h2 hd okl okr ok1 n1 (fun H f hH hEH gf hf l4 => ?_) hal (tC v) 0 G g (by omega) (chX.rfl'.c hG (by simp)) hEG k1G hg (fun d hd2 => by rw [hgx d hd2, if_neg (by omega)])
  have gl : ex_g H al = some (oAl al) := (hH.2.2 al (by simp) (by omega)).trans hal
  have g0H : ex_g H r0 = some (cI 42 f0) := (hH.2.2 r0 (by simp [n0]) (by omega)).trans g0
  simp only [s4_0, s4_1, s4_4, s4_5, s4_8, s4_9, s4_13, s4_14, s4_17, s4_20, s4_23, s4_26, s4_27, s4_30, s4_31, s4_34, s4_36, s4_39, s4_40, s4_42, s4_43, s4_44, s4_47, s4_50, s4_51, s4_54, s4_55, s4_56, s4_57, s4_59, s4_62, is_O, opt_s, opt_n, cat_0, cat_i, cat_r, true_and, Nat.zero_le, Nat.reduceAdd, Nat.reduceLeDiff, al_I, as_I, rl_R, ln_I, ln_R, nI_add, pk_mul, g_set, set_set, not_false_eq_true, gf0_0, gf0_1, gf0_2, gf1_0, gf1_1, gf1_2, gf1_3, gf1_4, gf1_5, gf1_6, gf1_7, gf1_8, gf1_9, gf1_10, gf1_11, gf2_0, gf2_1, gf2_2, gf3_0, gf3_1, gf4_0, gf4_1, gf4_2, gf5_0, gf5_1, gf5_2, gf5_3, gf6_0, gf6_1, gf6_2, gf6_3, gf6_4, gf6_5, gf6_6, gf7_0, gf7_1, gf7_2, gf7_3, gf7_4, gf7_5, pf0_0, pf0_1, pf0_2, pf1_0, pf1_1, pf1_2, pf1_3, pf1_4, pf1_5, pf1_6, pf1_7, pf1_8, pf1_9, pf1_10, pf1_11, pf2_0, pf2_1, pf2_2, pf3_0, pf3_1, pf4_0, pf4_1, pf4_2, pf5_0, pf5_1, pf5_2, pf5_3, pf6_0, pf6_1, pf6_2, pf6_3, pf6_4, pf6_5, pf6_6, pf7_0, pf7_1, pf7_2, pf7_3, pf7_4, pf7_5, gl, gf, g0H]
  rw [cpy_I (by decide) (by decide) (by decide)]
  refine hX _ _ ⟨hH.1, hH.2.1, fun q q1 q2 => ?_⟩ (hEH.set h1 h2 ok0) g_set (fun d hd2 => ?_)
  · simp at q1
    rw [g_ne q1.2]
    exact hH.2.2 q (by simp [q1.1]) q2
  · rw [pk_cpy_in (by omega) (by omega), show 0 + (d - 0) = d by omega]
    exact hf d hd2
end C16
