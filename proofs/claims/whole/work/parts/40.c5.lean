/-! THE CLASS: diagrams stacked -/
def hO (v : Nat) : Nat → Nat
  | 0 => 8 + tC v
  | i + 1 => hO v i + 6 + tHn v (v - 2 * i)
def eO (v : Nat) : Nat := hO v (v / 2 + 1)
theorem cLd_k : all5 (fun v => decide (vP (2 * v) 0 ∧ (cL (2 * v) 0).length = tC v ∧ 8 + tC v ≤ eO v) && allN (tC v) (fun i => decide ((cL (2 * v) 0).getD i 0 = tCode v i) && allN (2 * v) (fun j => decide (rL (2 * v) 0 i j = tR v i j)))) = true := by decide +kernel
theorem cLd {v : Nat} (h1 : 1 ≤ v) (h2 : v ≤ 5) : vP (2 * v) 0 ∧ (cL (2 * v) 0).length = tC v ∧ 8 + tC v ≤ eO v := by
  have q := all5_of cLd_k h1 h2
  rw [Bool.and_eq_true] at q
  exact of_decide_eq_true q.1
theorem cLd2 {v i : Nat} (h1 : 1 ≤ v) (h2 : v ≤ 5) (hi : i < tC v) : (cL (2 * v) 0).getD i 0 = tCode v i ∧ ∀ j, j < 2 * v → rL (2 * v) 0 i j = tR v i j := by
  have q := all5_of cLd_k h1 h2
  rw [Bool.and_eq_true] at q
  have q := allN_of q.2 hi
  rw [Bool.and_eq_true] at q
  exact ⟨of_decide_eq_true q.1, fun j hj => of_decide_eq_true (allN_of q.2 hj)⟩
def fe (v x y : Nat) : Nat → Bool → Nat → Option Nat
  | 0, _, _ => none
  | m + 1, up, pt => if decide ((if up = true then tR v x pt else tR v y pt) < v) = up then some (if up = true then tR v x pt else tR v y pt) else fe v x y m (!up) (2 * v - 1 - (if up = true then tR v x pt else tR v y pt))
def bF (v x : Nat) : Nat → Nat := fun p => if tR v x (2 * v - 1 - p) < v then 99 else 2 * v - 1 - tR v x (2 * v - 1 - p)
def aF (v y : Nat) : Nat → Nat := fun p => if tR v y p < v then tR v y p else 99
theorem tFe_k : all5 (fun v => allN (tC v) (fun x => allN (tC v) (fun y => allN (2 * v) (fun p => decide (fe v x y (2 * v) (decide (p < v)) p = some (tR v (tP v x y) p))) && decide (glc (bF v x) (aF v y) v v 0 0 = tQ v x y)))) = true := by decide +kernel
theorem tFe {v x y : Nat} (h1 : 1 ≤ v) (h2 : v ≤ 5) (hx : x < tC v) (hy : y < tC v) : (∀ p, p < 2 * v → fe v x y (2 * v) (decide (p < v)) p = some (tR v (tP v x y) p)) ∧ glc (bF v x) (aF v y) v v 0 0 = tQ v x y := by
  have q := allN_of (allN_of (all5_of tFe_k h1 h2) hx) hy
  rw [Bool.and_eq_true] at q
  exact ⟨fun p hp => of_decide_eq_true (allN_of q.1 hp), of_decide_eq_true q.2⟩
abbrev oDg (v a : Nat) (c3 c4 c6 c7 c8 : Value) : ex_AC := cO 1 [.int (nI v), .int (nI (2 * v)), .ref (a + 1), c3, c4, .ref (a + eO v + 3), c6, c7, c8, .ref (a + eO v), .ref (a + eO v + 1), .ref (a + eO v + 2)]
def memo (v : Nat) (fs : Nat → Int32) : Prop := ∀ x, x < tC v → ∀ y, y < tC v → fs (x * tC v + y) = -1 ∨ fs (x * tC v + y) = nI (8 * tP v x y + tQ v x y)
def DK (v a : Nat) (c3 c4 c6 c7 c8 : Value) (h : ex_Hp) : Prop := ex_g h a = some (oDg v a c3 c4 c6 c7 c8) ∧ TX (2 * v) 0 (a + 1) h ∧ (∃ fs, ex_g h (a + eO v + 3) = some (cI (tC v * tC v) fs) ∧ memo v fs) ∧ (∃ f, ex_g h (a + eO v) = some (cI (2 * v) f)) ∧ (∃ f, ex_g h (a + eO v + 1) = some (cI v f)) ∧ ∃ f, ex_g h (a + eO v + 2) = some (cI v f)
/-- only the four rows of a Diagrams that change have changed -/
def chD (v a : Nat) (h H : ex_Hp) : Prop := H.1 = h.1 ∧ H.2.1 = h.2.1 ∧ ∀ q, q < a + eO v ∨ a + eO v + 4 ≤ q → ex_g H q = ex_g h q
section C5
variable {h H : ex_Hp} {X : Option Value → ex_Hp → Prop} {v a x y u l : Nat} {c3 c4 c6 c7 c8 : Value} {fu fl : Nat → Int32}
theorem chD.rfl' : chD v a h h := ⟨rfl, rfl, fun _ _ => rfl⟩
theorem chD.trans {K : ex_Hp} (p : chD v a h H) (q : chD v a H K) : chD v a h K := ⟨q.1.trans p.1, q.2.1.trans p.2.1, fun z hz => (q.2.2 z hz).trans (p.2.2 z hz)⟩
theorem chD.set {k : Nat} {c : ex_AC} (p : chD v a h H) (hk : a + eO v ≤ k ∧ k < a + eO v + 4) : chD v a h (ex_set H k c) := ⟨p.1, p.2.1, fun z hz => by rw [g_ne (by omega)]; exact p.2.2 z hz⟩
theorem DK.txt (h1 : 1 ≤ v) (h2 : v ≤ 5) (hD : DK v a c3 c4 c6 c7 c8 h) : ∃ fc w', ex_g h (a + 1) = some (cO 6 [.int (nI (tC v)), .ref (a + 1 + 5), .ref (a + 1 + 4), .int (nI (2 * v)), .int (nI 0), .int (nI (bs 0)), w']) ∧ ex_g h (a + 1 + 4) = some (cI (tC v) fc) ∧ (∀ i, i < tC v → fc i = nI (tCode v i)) ∧ ex_g h (a + 1 + 5) = some (cR 2 (tC v) (fun i => if i < tC v then some (a + 1 + 6 + i) else none)) := by
  obtain ⟨_, ⟨t1, ⟨fc, t2, t3⟩, t4, _⟩, _⟩ := hD
  obtain ⟨_, l1, _⟩ := cLd h1 h2
  rw [l1] at t1 t2 t4
  refine ⟨fc, _, t1, t2, fun i hi => ?_, t4⟩
  rw [t3 i (by omega), (cLd2 h1 h2 hi).1]
theorem DK.row {d : Nat} (h1 : 1 ≤ v) (h2 : v ≤ 5) (hD : DK v a c3 c4 c6 c7 c8 h) (hd : d < tC v) : ∃ f, ex_g h (a + 1 + 6 + d) = some (cI (2 * v) f) ∧ ∀ j, j < 2 * v → f j = nI (tR v d j) := by
  obtain ⟨_, ⟨_, _, _, t5⟩, _⟩ := hD
  obtain ⟨_, l1, _⟩ := cLd h1 h2
  obtain ⟨f, f1, f2⟩ := t5 d (by omega)
  refine ⟨f, f1, fun j hj => ?_⟩
  have := tR_lt h1 h2 hd hj
  rw [f2 j hj, (cLd2 h1 h2 hd).2 j hj, oV_n (by omega)]
theorem DK.fr (h1 : 1 ≤ v) (h2 : v ≤ 5) (hD : DK v a c3 c4 c6 c7 c8 h) (hq : ∀ q, a ≤ q → q < a + eO v + 4 → ex_g H q = ex_g h q) : DK v a c3 c4 c6 c7 c8 H := by
  obtain ⟨d1, d2, ⟨fs, d3, d4⟩, ⟨f1, d5⟩, ⟨f2, d6⟩, f3, d7⟩ := hD
  obtain ⟨_, l1, l2⟩ := cLd h1 h2
  refine ⟨?_, d2.fr (fun q q1 q2 => hq q (by omega) (by omega)), ⟨fs, ?_, d4⟩, ⟨f1, ?_⟩, ⟨f2, ?_⟩, f3, ?_⟩
  · rw [hq _ (by omega) (by omega)]; exact d1
  · rw [hq _ (by omega) (by omega)]; exact d3
  · rw [hq _ (by omega) (by omega)]; exact d5
  · rw [hq _ (by omega) (by omega)]; exact d6
  · rw [hq _ (by omega) (by omega)]; exact d7
theorem DK.ch (h1 : 1 ≤ v) (h2 : v ≤ 5) (hD : DK v a c3 c4 c6 c7 c8 h) (hc : chD v a h H) (e3 : ∃ fs, ex_g H (a + eO v + 3) = some (cI (tC v * tC v) fs) ∧ memo v fs) (e0 : ∃ f, ex_g H (a + eO v) = some (cI (2 * v) f)) (e1 : ∃ f, ex_g H (a + eO v + 1) = some (cI v f)) (e2 : ∃ f, ex_g H (a + eO v + 2) = some (cI v f)) : DK v a c3 c4 c6 c7 c8 H := by
  obtain ⟨d1, d2, _⟩ := hD
  obtain ⟨_, l1, l2⟩ := cLd h1 h2
  refine ⟨?_, d2.fr (fun q q1 q2 => hc.2.2 q (by omega)), e3, e0, e1, e2⟩
  rw [hc.2.2 _ (by omega)]
  exact d1
theorem m_opp {z : Int32} (ha : ex_g h a = some (oDg v x c3 c4 c6 c7 c8)) : ex_W 9 0 [.ref a, .int z] [] h X ↔ X (some (.int (nI (2 * v) - nI 1 - z))) h := by
  simp only [s9_0, s9_1, s9_4, s9_5, s9_6, s9_7, s9_8, is_O, opt_s, opt_n, cat_0, cat_i, cat_r, true_and, Nat.zero_le, Nat.reduceAdd, Nat.reduceLeDiff, al_I, as_I, rl_R, ln_I, ln_R, nI_add, pk_mul, g_set, set_set, not_false_eq_true, gf0_0, gf0_1, gf0_2, gf1_0, gf1_1, gf1_2, gf1_3, gf1_4, gf1_5, gf1_6, gf1_7, gf1_8, gf1_9, gf1_10, gf1_11, gf2_0, gf2_1, gf2_2, gf3_0, gf3_1, gf4_0, gf4_1, gf4_2, gf5_0, gf5_1, gf5_2, gf5_3, gf6_0, gf6_1, gf6_2, gf6_3, gf6_4, gf6_5, gf6_6, gf7_0, gf7_1, gf7_2, gf7_3, gf7_4, gf7_5, pf0_0, pf0_1, pf0_2, pf1_0, pf1_1, pf1_2, pf1_3, pf1_4, pf1_5, pf1_6, pf1_7, pf1_8, pf1_9, pf1_10, pf1_11, pf2_0, pf2_1, pf2_2, pf3_0, pf3_1, pf4_0, pf4_1, pf4_2, pf5_0, pf5_1, pf5_2, pf5_3, pf6_0, pf6_1, pf6_2, pf6_3, pf6_4, pf6_5, pf6_6, pf7_0, pf7_1, pf7_2, pf7_3, pf7_4, pf7_5, ha]
theorem l_far {s : Nat} (h1 : 1 ≤ v) (h2 : v ≤ 5) (hx : x < tC v) (hy : y < tC v) (ha : ex_g h a = some (oDg v a c3 c4 c6 c7 c8)) (hu : ex_g h u = some (cI (2 * v) fu)) (hl : ex_g h l = some (cI (2 * v) fl)) (hfu : ∀ j, j < 2 * v → fu j = nI (tR v x j)) (hfl : ∀ j, j < 2 * v → fl j = nI (tR v y j)) {res : Nat} (hX : X (some (.int (nI res))) h) : ∀ (m t : Nat) (up : Bool) (pt : Nat) (l7 : Value), m + t = 2 * v → pt < 2 * v → fe v x y m up pt = some res → ex_W 20 21 [.ref a, .ref u, .ref l, .int (nI s), .int (bI up), .int (nI pt), .int (nI t), l7] [] h X := by
  intro m
  induction m with
  | zero => intro t up pt l7 hm hp he; cases he
  | succ m ih =>
    intro t up pt l7 hm hp he
    rw [fe] at he
    have r1 := tR_lt h1 h2 hx hp
    have r2 := tR_lt h1 h2 hy hp
    rw [s20_21]
    have key : ∀ e : Nat, e < 2 * v → (if decide (e < v) = up then some e else fe v x y m (!up) (2 * v - 1 - e)) = some res → ex_W 20 46 [.ref a, .ref u, .ref l, .int (nI s), .int (bI up), .int (nI pt), .int (nI t), l7] [.int (nI e)] h X := by
      intro e hee he
      have e1 : nI (2 * v) - nI 1 - nI e = nI (2 * v - 1 - e) := by rw [pk_sub (by omega), pk_sub (by omega)]
      simp only [s20_0, s20_1, s20_2, s20_5, s20_8, s20_9, s20_12, s20_13, s20_15, s20_16, s20_18, s20_19, s20_23, s20_24, s20_27, s20_30, s20_32, s20_35, s20_36, s20_38, s20_39, s20_42, s20_43, s20_45, s20_46, s20_48, s20_50, s20_51, s20_54, s20_57, s20_58, s20_61, s20_62, s20_64, s20_67, s20_69, s20_70, s20_71, s20_73, s20_76, s20_78, s20_80, s20_83, s20_84, s20_87, s20_88, s20_90, s20_93, s20_96, s20_97, is_O, opt_s, opt_n, cat_0, cat_i, cat_r, true_and, Nat.zero_le, Nat.reduceAdd, Nat.reduceLeDiff, al_I, as_I, rl_R, ln_I, ln_R, nI_add, pk_mul, g_set, set_set, not_false_eq_true, gf0_0, gf0_1, gf0_2, gf1_0, gf1_1, gf1_2, gf1_3, gf1_4, gf1_5, gf1_6, gf1_7, gf1_8, gf1_9, gf1_10, gf1_11, gf2_0, gf2_1, gf2_2, gf3_0, gf3_1, gf4_0, gf4_1, gf4_2, gf5_0, gf5_1, gf5_2, gf5_3, gf6_0, gf6_1, gf6_2, gf6_3, gf6_4, gf6_5, gf6_6, gf7_0, gf7_1, gf7_2, gf7_3, gf7_4, gf7_5, pf0_0, pf0_1, pf0_2, pf1_0, pf1_1, pf1_2, pf1_3, pf1_4, pf1_5, pf1_6, pf1_7, pf1_8, pf1_9, pf1_10, pf1_11, pf2_0, pf2_1, pf2_2, pf3_0, pf3_1, pf4_0, pf4_1, pf4_2, pf5_0, pf5_1, pf5_2, pf5_3, pf6_0, pf6_1, pf6_2, pf6_3, pf6_4, pf6_5, pf6_6, pf7_0, pf7_1, pf7_2, pf7_3, pf7_4, pf7_5, ha, m_opp ha, e1]
      by_cases hev : e < v
      · rw [if_neg (fun z => absurd ((nI_l1 (by omega) (by omega)).mp z) (by omega))]
        rw [decide_eq_true hev] at he
        cases up with
        | true =>
          rw [if_pos rfl] at he
          cases he
          rw [if_neg (show ¬ ¬ nI 1 = bI true by decide)]
          exact hX
        | false =>
          rw [if_neg (by decide)] at he
          rw [if_pos (show ¬ nI 1 = bI false by decide), if_neg (show ¬ ¬ bI false = nI 0 by decide)]
          exact ih (t + 1) true _ _ (by omega) (by omega) he
      · rw [if_pos ((nI_l1 (by omega) (by omega)).mpr (by omega))]
        rw [decide_eq_false hev] at he
        cases up with
        | true =>
          rw [if_neg (by decide)] at he
          rw [if_pos (show ¬ nI 0 = bI true by decide), if_pos (show ¬ bI true = nI 0 by decide)]
          exact ih (t + 1) false _ _ (by omega) (by omega) he
        | false =>
          rw [if_pos rfl] at he
          cases he
          rw [if_neg (show ¬ ¬ nI 0 = bI false by decide)]
          exact hX
    simp only [s20_0, s20_1, s20_2, s20_5, s20_8, s20_9, s20_12, s20_13, s20_15, s20_16, s20_18, s20_19, s20_23, s20_24, s20_27, s20_30, s20_32, s20_35, s20_36, s20_38, s20_39, s20_42, s20_43, s20_45, s20_48, s20_50, s20_51, s20_54, s20_57, s20_58, s20_61, s20_62, s20_64, s20_67, s20_69, s20_70, s20_71, s20_73, s20_76, s20_78, s20_80, s20_83, s20_84, s20_87, s20_88, s20_90, s20_93, s20_96, s20_97, is_O, opt_s, opt_n, cat_0, cat_i, cat_r, true_and, Nat.zero_le, Nat.reduceAdd, Nat.reduceLeDiff, al_I, as_I, rl_R, ln_I, ln_R, nI_add, pk_mul, g_set, set_set, not_false_eq_true, gf0_0, gf0_1, gf0_2, gf1_0, gf1_1, gf1_2, gf1_3, gf1_4, gf1_5, gf1_6, gf1_7, gf1_8, gf1_9, gf1_10, gf1_11, gf2_0, gf2_1, gf2_2, gf3_0, gf3_1, gf4_0, gf4_1, gf4_2, gf5_0, gf5_1, gf5_2, gf5_3, gf6_0, gf6_1, gf6_2, gf6_3, gf6_4, gf6_5, gf6_6, gf7_0, gf7_1, gf7_2, gf7_3, gf7_4, gf7_5, pf0_0, pf0_1, pf0_2, pf1_0, pf1_1, pf1_2, pf1_3, pf1_4, pf1_5, pf1_6, pf1_7, pf1_8, pf1_9, pf1_10, pf1_11, pf2_0, pf2_1, pf2_2, pf3_0, pf3_1, pf4_0, pf4_1, pf4_2, pf5_0, pf5_1, pf5_2, pf5_3, pf6_0, pf6_1, pf6_2, pf6_3, pf6_4, pf6_5, pf6_6, pf7_0, pf7_1, pf7_2, pf7_3, pf7_4, pf7_5, ha, hu, hl, xi_n hp (show 2 * v < 2147483648 by omega), hfu pt hp, hfl pt hp]
    rw [if_neg (fun z => absurd ((nI_l1 (by omega) (by omega)).mp z) (by omega))]
    cases up with
    | true =>
      rw [if_neg (show ¬ bI true = nI 0 by decide)]
      exact key _ r1 he
    | false =>
      rw [if_pos (show bI false = nI 0 by decide)]
      exact key _ r2 he
theorem m_far {s : Nat} (h1 : 1 ≤ v) (h2 : v ≤ 5) (hx : x < tC v) (hy : y < tC v) (hs : s < 2 * v) (ha : ex_g h a = some (oDg v a c3 c4 c6 c7 c8)) (hu : ex_g h u = some (cI (2 * v) fu)) (hl : ex_g h l = some (cI (2 * v) fl)) (hfu : ∀ j, j < 2 * v → fu j = nI (tR v x j)) (hfl : ∀ j, j < 2 * v → fl j = nI (tR v y j)) (hX : X (some (.int (nI (tR v (tP v x y) s)))) h) : ex_W 20 0 [.ref a, .ref u, .ref l, .int (nI s), oU, oU, oU, oU] [] h X := by
  have hf := (tFe h1 h2 hx hy).1 s hs
  simp only [s20_0, s20_1, s20_2, s20_5, s20_8, s20_9, s20_12, s20_13, s20_15, s20_16, s20_18, s20_19, s20_23, s20_24, s20_27, s20_30, s20_32, s20_35, s20_36, s20_38, s20_39, s20_42, s20_43, s20_45, s20_46, s20_48, s20_50, s20_51, s20_54, s20_57, s20_58, s20_61, s20_62, s20_64, s20_67, s20_69, s20_70, s20_71, s20_73, s20_76, s20_78, s20_80, s20_83, s20_84, s20_87, s20_88, s20_90, s20_93, s20_96, s20_97, is_O, opt_s, opt_n, cat_0, cat_i, cat_r, true_and, Nat.zero_le, Nat.reduceAdd, Nat.reduceLeDiff, al_I, as_I, rl_R, ln_I, ln_R, nI_add, pk_mul, g_set, set_set, not_false_eq_true, gf0_0, gf0_1, gf0_2, gf1_0, gf1_1, gf1_2, gf1_3, gf1_4, gf1_5, gf1_6, gf1_7, gf1_8, gf1_9, gf1_10, gf1_11, gf2_0, gf2_1, gf2_2, gf3_0, gf3_1, gf4_0, gf4_1, gf4_2, gf5_0, gf5_1, gf5_2, gf5_3, gf6_0, gf6_1, gf6_2, gf6_3, gf6_4, gf6_5, gf6_6, gf7_0, gf7_1, gf7_2, gf7_3, gf7_4, gf7_5, pf0_0, pf0_1, pf0_2, pf1_0, pf1_1, pf1_2, pf1_3, pf1_4, pf1_5, pf1_6, pf1_7, pf1_8, pf1_9, pf1_10, pf1_11, pf2_0, pf2_1, pf2_2, pf3_0, pf3_1, pf4_0, pf4_1, pf4_2, pf5_0, pf5_1, pf5_2, pf5_3, pf6_0, pf6_1, pf6_2, pf6_3, pf6_4, pf6_5, pf6_6, pf7_0, pf7_1, pf7_2, pf7_3, pf7_4, pf7_5, ha]
  by_cases hsv : s < v
  · rw [decide_eq_true hsv] at hf
    rw [if_neg (fun z => absurd ((nI_l1 (by omega) (by omega)).mp z) (by omega))]
    exact l_far h1 h2 hx hy ha hu hl hfu hfl hX (2 * v) 0 true s _ (by omega) hs hf
  · rw [decide_eq_false hsv] at hf
    rw [if_pos ((nI_l1 (by omega) (by omega)).mpr (by omega))]
    exact l_far h1 h2 hx hy ha hu hl hfu hfl hX (2 * v) 0 false s _ (by omega) hs hf
theorem m_between (h1 : 1 ≤ v) (h2 : v ≤ 5) (hx : x < tC v) (hy : y < tC v) (hD : DK v a c3 c4 c6 c7 c8 h) (hu : ex_g h u = some (cI (2 * v) fu)) (hl : ex_g h l = some (cI (2 * v) fl)) (hu2 : u < a + eO v) (hl2 : l < a + eO v) (hfu : ∀ j, j < 2 * v → fu j = nI (tR v x j)) (hfl : ∀ j, j < 2 * v → fl j = nI (tR v y j)) (hX : ∀ H, chD v a h H → DK v a c3 c4 c6 c7 c8 H → X (some (.int (nI (tQ v x y)))) H) : ∀ (m t : Nat) (l4 : Value) (H : ex_Hp) (f1 f2 : Nat → Int32), m + t = v → chD v a h H → DK v a c3 c4 c6 c7 c8 H → ex_g H (a + eO v + 1) = some (cI v f1) → ex_g H (a + eO v + 2) = some (cI v f2) → (∀ j, j < t → f1 j = oV (bF v x j) ∧ f2 j = oV (aF v y j)) → ex_W 21 2 [.ref a, .ref u, .ref l, .int (nI t), l4] [] H X := by
  intro m
  induction m with
  | zero =>
    intro t l4 H f1 f2 hm hH hK g1 g2 hf
    obtain rfl : t = v := by omega
    have ga := hK.1
    rw [s21_2]
    simp only [s21_0, s21_1, s21_3, s21_4, s21_7, s21_10, s21_11, s21_12, s21_13, s21_16, s21_17, s21_19, s21_20, s21_23, s21_24, s21_26, s21_27, s21_30, s21_33, s21_34, s21_37, s21_38, s21_40, s21_43, s21_44, s21_45, s21_48, s21_49, s21_50, s21_51, s21_52, s21_53, s21_56, s21_59, s21_60, s21_61, s21_62, s21_65, s21_66, s21_67, s21_70, s21_73, s21_74, s21_77, s21_78, s21_81, s21_84, is_O, opt_s, opt_n, cat_0, cat_i, cat_r, true_and, Nat.zero_le, Nat.reduceAdd, Nat.reduceLeDiff, al_I, as_I, rl_R, ln_I, ln_R, nI_add, pk_mul, g_set, set_set, not_false_eq_true, gf0_0, gf0_1, gf0_2, gf1_0, gf1_1, gf1_2, gf1_3, gf1_4, gf1_5, gf1_6, gf1_7, gf1_8, gf1_9, gf1_10, gf1_11, gf2_0, gf2_1, gf2_2, gf3_0, gf3_1, gf4_0, gf4_1, gf4_2, gf5_0, gf5_1, gf5_2, gf5_3, gf6_0, gf6_1, gf6_2, gf6_3, gf6_4, gf6_5, gf6_6, gf7_0, gf7_1, gf7_2, gf7_3, gf7_4, gf7_5, pf0_0, pf0_1, pf0_2, pf1_0, pf1_1, pf1_2, pf1_3, pf1_4, pf1_5, pf1_6, pf1_7, pf1_8, pf1_9, pf1_10, pf1_11, pf2_0, pf2_1, pf2_2, pf3_0, pf3_1, pf4_0, pf4_1, pf4_2, pf5_0, pf5_1, pf5_2, pf5_3, pf6_0, pf6_1, pf6_2, pf6_3, pf6_4, pf6_5, pf6_6, pf7_0, pf7_1, pf7_2, pf7_3, pf7_4, pf7_5, ga]
    rw [if_pos ((nI_l1 (by omega) (by omega)).mpr (by omega))]
    refine m_closed (F := bF t x) (G := aF t y) (by omega) g1 g2 (fun j hj => (hf j hj).1) (fun j hj => (hf j hj).2) (fun j hj => ?_) (fun j hj => ?_) ?_
    · have := tR_lt h1 h2 hx (show 2 * t - 1 - j < 2 * t by omega)
      unfold bF
      split
      · exact Or.inl rfl
      · exact Or.inr (by omega)
    · unfold aF
      split
      · exact Or.inr (by omega)
      · exact Or.inl rfl
    · rw [(tFe h1 h2 hx hy).2]
      simp only [s21_0, s21_1, s21_3, s21_4, s21_7, s21_10, s21_11, s21_12, s21_13, s21_16, s21_17, s21_19, s21_20, s21_23, s21_24, s21_26, s21_27, s21_30, s21_33, s21_34, s21_37, s21_38, s21_40, s21_43, s21_44, s21_45, s21_48, s21_49, s21_50, s21_51, s21_52, s21_53, s21_56, s21_59, s21_60, s21_61, s21_62, s21_65, s21_66, s21_67, s21_70, s21_73, s21_74, s21_77, s21_78, s21_81, s21_84, is_O, opt_s, opt_n, cat_0, cat_i, cat_r, true_and, Nat.zero_le, Nat.reduceAdd, Nat.reduceLeDiff, al_I, as_I, rl_R, ln_I, ln_R, nI_add, pk_mul, g_set, set_set, not_false_eq_true, gf0_0, gf0_1, gf0_2, gf1_0, gf1_1, gf1_2, gf1_3, gf1_4, gf1_5, gf1_6, gf1_7, gf1_8, gf1_9, gf1_10, gf1_11, gf2_0, gf2_1, gf2_2, gf3_0, gf3_1, gf4_0, gf4_1, gf4_2, gf5_0, gf5_1, gf5_2, gf5_3, gf6_0, gf6_1, gf6_2, gf6_3, gf6_4, gf6_5, gf6_6, gf7_0, gf7_1, gf7_2, gf7_3, gf7_4, gf7_5, pf0_0, pf0_1, pf0_2, pf1_0, pf1_1, pf1_2, pf1_3, pf1_4, pf1_5, pf1_6, pf1_7, pf1_8, pf1_9, pf1_10, pf1_11, pf2_0, pf2_1, pf2_2, pf3_0, pf3_1, pf4_0, pf4_1, pf4_2, pf5_0, pf5_1, pf5_2, pf5_3, pf6_0, pf6_1, pf6_2, pf6_3, pf6_4, pf6_5, pf6_6, pf7_0, pf7_1, pf7_2, pf7_3, pf7_4, pf7_5]
      exact hX H hH hK
  | succ m ih =>
    intro t l4 H f1 f2 hm hH hK g1 g2 hf
    have ga := hK.1
    have gu : ex_g H u = some (cI (2 * v) fu) := (hH.2.2 u (by omega)).trans hu
    have gl : ex_g H l = some (cI (2 * v) fl) := (hH.2.2 l (by omega)).trans hl
    have hm2 : 2 * v - 1 - t < 2 * v := by omega
    have r1 := tR_lt h1 h2 hx hm2
    have r2 := tR_lt h1 h2 hy (show t < 2 * v by omega)
    have e1 : nI (2 * v) - nI 1 - nI t = nI (2 * v - 1 - t) := by rw [pk_sub (by omega), pk_sub (by omega)]
    have e2 : nI (2 * v) - nI 1 - nI (tR v x (2 * v - 1 - t)) = nI (2 * v - 1 - tR v x (2 * v - 1 - t)) := by rw [pk_sub (by omega), pk_sub (by omega)]
    have n12 : ¬ a + eO v + 2 = a + eO v + 1 := by omega
    have n21 : ¬ a + eO v + 1 = a + eO v + 2 := by omega
    have na : ¬ a = a + eO v + 1 := by omega
    have nl : ¬ l = a + eO v + 1 := by omega
    have key : ∀ p : Int32, p = oV (bF v x t) → ex_W 21 43 [.ref a, .ref u, .ref l, .int (nI t), .int (nI (tR v x (2 * v - 1 - t)))] [.int p, .int (nI t), .ref (a + eO v + 1)] H X := by
      intro p hp
      have ga2 : ex_g (ex_set H (a + eO v + 1) (cI v (upd f1 t p))) a = some (oDg v a c3 c4 c6 c7 c8) := (g_ne na).trans ga
      have gl2 : ex_g (ex_set H (a + eO v + 1) (cI v (upd f1 t p))) l = some (cI (2 * v) fl) := (g_ne nl).trans gl
      have g22 : ex_g (ex_set H (a + eO v + 1) (cI v (upd f1 t p))) (a + eO v + 2) = some (cI v f2) := (g_ne n12).trans g2
      have key2 : ∀ z : Int32, z = oV (aF v y t) → ex_W 21 66 [.ref a, .ref u, .ref l, .int (nI t), .int (nI (tR v x (2 * v - 1 - t)))] [.int z, .int (nI t), .ref (a + eO v + 2)] (ex_set H (a + eO v + 1) (cI v (upd f1 t p))) X := by
        intro z hz
        simp only [s21_0, s21_1, s21_3, s21_4, s21_7, s21_10, s21_11, s21_12, s21_13, s21_16, s21_17, s21_19, s21_20, s21_23, s21_24, s21_26, s21_27, s21_30, s21_33, s21_34, s21_37, s21_38, s21_40, s21_43, s21_44, s21_45, s21_48, s21_49, s21_50, s21_51, s21_52, s21_53, s21_56, s21_59, s21_60, s21_61, s21_62, s21_65, s21_66, s21_67, s21_70, s21_73, s21_74, s21_77, s21_78, s21_81, s21_84, is_O, opt_s, opt_n, cat_0, cat_i, cat_r, true_and, Nat.zero_le, Nat.reduceAdd, Nat.reduceLeDiff, al_I, as_I, rl_R, ln_I, ln_R, nI_add, pk_mul, g_set, set_set, not_false_eq_true, gf0_0, gf0_1, gf0_2, gf1_0, gf1_1, gf1_2, gf1_3, gf1_4, gf1_5, gf1_6, gf1_7, gf1_8, gf1_9, gf1_10, gf1_11, gf2_0, gf2_1, gf2_2, gf3_0, gf3_1, gf4_0, gf4_1, gf4_2, gf5_0, gf5_1, gf5_2, gf5_3, gf6_0, gf6_1, gf6_2, gf6_3, gf6_4, gf6_5, gf6_6, gf7_0, gf7_1, gf7_2, gf7_3, gf7_4, gf7_5, pf0_0, pf0_1, pf0_2, pf1_0, pf1_1, pf1_2, pf1_3, pf1_4, pf1_5, pf1_6, pf1_7, pf1_8, pf1_9, pf1_10, pf1_11, pf2_0, pf2_1, pf2_2, pf3_0, pf3_1, pf4_0, pf4_1, pf4_2, pf5_0, pf5_1, pf5_2, pf5_3, pf6_0, pf6_1, pf6_2, pf6_3, pf6_4, pf6_5, pf6_6, pf7_0, pf7_1, pf7_2, pf7_3, pf7_4, pf7_5, g22, xi_n (show t < v by omega) (show v < 2147483648 by omega)]
        have hc2 : chD v a h (ex_set (ex_set H (a + eO v + 1) (cI v (upd f1 t p))) (a + eO v + 2) (cI v (upd f2 t z))) := (hH.set (by omega)).set (by omega)
        have hs1 : ex_g (ex_set (ex_set H (a + eO v + 1) (cI v (upd f1 t p))) (a + eO v + 2) (cI v (upd f2 t z))) (a + eO v + 1) = some (cI v (upd f1 t p)) := (g_ne n21).trans g_set
        obtain ⟨k1, k2, ⟨fs, k3, k4⟩, ⟨f3, k5⟩, _, _⟩ := hK
        refine ih (t + 1) _ _ (upd f1 t p) (upd f2 t z) (by omega) hc2 (DK.ch h1 h2 hD hc2 ⟨fs, ?_, k4⟩ ⟨f3, ?_⟩ ⟨_, hs1⟩ ⟨_, g_set⟩) hs1 g_set (fun j hj => ?_)
        · rw [g_ne (by omega), g_ne (by omega)]; exact k3
        · rw [g_ne (by omega), g_ne (by omega)]; exact k5
        · by_cases hc : j = t
          · rw [hc, pk_us, pk_us]
            exact ⟨hp, hz⟩
          · rw [pk_un hc, pk_un hc]
            exact hf j (by omega)
      simp only [s21_0, s21_1, s21_3, s21_4, s21_7, s21_10, s21_11, s21_12, s21_13, s21_16, s21_17, s21_19, s21_20, s21_23, s21_24, s21_26, s21_27, s21_30, s21_33, s21_34, s21_37, s21_38, s21_40, s21_43, s21_44, s21_45, s21_48, s21_49, s21_50, s21_51, s21_52, s21_53, s21_56, s21_59, s21_60, s21_61, s21_62, s21_65, s21_67, s21_70, s21_73, s21_74, s21_77, s21_78, s21_81, s21_84, is_O, opt_s, opt_n, cat_0, cat_i, cat_r, true_and, Nat.zero_le, Nat.reduceAdd, Nat.reduceLeDiff, al_I, as_I, rl_R, ln_I, ln_R, nI_add, pk_mul, g_set, set_set, not_false_eq_true, gf0_0, gf0_1, gf0_2, gf1_0, gf1_1, gf1_2, gf1_3, gf1_4, gf1_5, gf1_6, gf1_7, gf1_8, gf1_9, gf1_10, gf1_11, gf2_0, gf2_1, gf2_2, gf3_0, gf3_1, gf4_0, gf4_1, gf4_2, gf5_0, gf5_1, gf5_2, gf5_3, gf6_0, gf6_1, gf6_2, gf6_3, gf6_4, gf6_5, gf6_6, gf7_0, gf7_1, gf7_2, gf7_3, gf7_4, gf7_5, pf0_0, pf0_1, pf0_2, pf1_0, pf1_1, pf1_2, pf1_3, pf1_4, pf1_5, pf1_6, pf1_7, pf1_8, pf1_9, pf1_10, pf1_11, pf2_0, pf2_1, pf2_2, pf3_0, pf3_1, pf4_0, pf4_1, pf4_2, pf5_0, pf5_1, pf5_2, pf5_3, pf6_0, pf6_1, pf6_2, pf6_3, pf6_4, pf6_5, pf6_6, pf7_0, pf7_1, pf7_2, pf7_3, pf7_4, pf7_5, g1, xi_n (show t < v by omega) (show v < 2147483648 by omega), ga2, gl2, xi_n (show t < 2 * v by omega) (show 2 * v < 2147483648 by omega), hfl t (by omega)]
      by_cases hc : tR v y t < v
      · rw [if_neg (fun z => absurd ((nI_l1 (by omega) (by omega)).mp z) (by omega))]
        refine key2 _ ?_
        unfold aF
        rw [if_pos hc, oV_n (by omega)]
      · rw [if_pos ((nI_l1 (by omega) (by omega)).mpr (by omega))]
        refine key2 _ ?_
        unfold aF
        rw [if_neg hc]
        rfl
    rw [s21_2]
    simp only [s21_0, s21_1, s21_3, s21_4, s21_7, s21_10, s21_11, s21_12, s21_13, s21_16, s21_17, s21_19, s21_20, s21_23, s21_24, s21_26, s21_27, s21_30, s21_33, s21_34, s21_37, s21_38, s21_40, s21_44, s21_45, s21_48, s21_49, s21_50, s21_51, s21_52, s21_53, s21_56, s21_59, s21_60, s21_61, s21_62, s21_65, s21_66, s21_67, s21_70, s21_73, s21_74, s21_77, s21_78, s21_81, s21_84, is_O, opt_s, opt_n, cat_0, cat_i, cat_r, true_and, Nat.zero_le, Nat.reduceAdd, Nat.reduceLeDiff, al_I, as_I, rl_R, ln_I, ln_R, nI_add, pk_mul, g_set, set_set, not_false_eq_true, gf0_0, gf0_1, gf0_2, gf1_0, gf1_1, gf1_2, gf1_3, gf1_4, gf1_5, gf1_6, gf1_7, gf1_8, gf1_9, gf1_10, gf1_11, gf2_0, gf2_1, gf2_2, gf3_0, gf3_1, gf4_0, gf4_1, gf4_2, gf5_0, gf5_1, gf5_2, gf5_3, gf6_0, gf6_1, gf6_2, gf6_3, gf6_4, gf6_5, gf6_6, gf7_0, gf7_1, gf7_2, gf7_3, gf7_4, gf7_5, pf0_0, pf0_1, pf0_2, pf1_0, pf1_1, pf1_2, pf1_3, pf1_4, pf1_5, pf1_6, pf1_7, pf1_8, pf1_9, pf1_10, pf1_11, pf2_0, pf2_1, pf2_2, pf3_0, pf3_1, pf4_0, pf4_1, pf4_2, pf5_0, pf5_1, pf5_2, pf5_3, pf6_0, pf6_1, pf6_2, pf6_3, pf6_4, pf6_5, pf6_6, pf7_0, pf7_1, pf7_2, pf7_3, pf7_4, pf7_5, ga, gu, m_opp ga, e1, e2, xi_n hm2 (show 2 * v < 2147483648 by omega), hfu _ hm2]
    rw [if_neg (fun z => absurd ((nI_l1 (by omega) (by omega)).mp z) (by omega))]
    by_cases hc : tR v x (2 * v - 1 - t) < v
    · rw [if_neg (fun z => absurd ((nI_l1 (by omega) (by omega)).mp z) (by omega))]
      refine key _ ?_
      unfold bF
      rw [if_pos hc]
      rfl
    · rw [if_pos ((nI_l1 (by omega) (by omega)).mpr (by omega))]
      refine key _ ?_
      unfold bF
      rw [if_neg hc, oV_n (by omega)]
end C5
