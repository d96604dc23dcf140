/-! THE CLASS: ways laid and read; a Diagrams as it stands when it is made -/
section C8
variable {h H : ex_Hp} {X : Option Value → ex_Hp → Prop} {v a x y u l d : Nat} {c3 c4 c6 c7 c8 : Value} {fu fl : Nat → Int32}
theorem l_w29 (h1 : 1 ≤ v) (h2 : v ≤ 5) (hh : hkC v a h) (hX : ∀ H f5 f6 f7 f8, chW v a h H → DKw v a c3 H → wC v a f5 f6 f7 f8 H → wS v (tC v) f5 f6 f7 f8 → X none H) : ∀ (n k : Nat) (l4 l5 l6 : Value) (H : ex_Hp) (f5 f6 f7 f8 : Nat → Int32), n + k = tC v → chW v a h H → DKw v a c3 H → wC v a f5 f6 f7 f8 H → wS v (tLw v k 1) f5 f6 f7 f8 → ex_W 11 29 [.ref a, .ref (a + eO v + 8), .int (nI (tLw v k 1)), .int (nI k), l4, l5, l6] [] H X := by
  have hC := tC_le h1 h2
  intro n
  induction n with
  | zero =>
    intro k l4 l5 l6 H f5 f6 f7 f8 hn hH hK hc hw
    obtain rfl : k = tC v := by omega
    rw [(tLw0 h1 h2).2.1] at hw ⊢
    have ga := hK.1
    obtain ⟨fc', w2, u1, u2, u3, u4⟩ := hK.txt h1 h2
    rw [s11_29]
    simp only [s11_0, s11_1, s11_4, s11_7, s11_9, s11_10, s11_11, s11_12, s11_13, s11_16, s11_17, s11_20, s11_21, s11_24, s11_25, s11_26, s11_27, s11_28, s11_30, s11_31, s11_34, s11_37, s11_40, s11_41, s11_42, s11_43, s11_45, s11_46, s11_50, s11_51, s11_54, s11_57, s11_58, s11_60, s11_61, s11_64, s11_66, s11_67, s11_70, s11_72, s11_73, s11_75, s11_76, s11_79, s11_81, s11_82, s11_83, s11_86, s11_87, s11_88, s11_89, s11_92, s11_93, s11_96, s11_98, s11_99, s11_102, s11_104, s11_105, s11_106, s11_107, s11_108, s11_109, s11_112, s11_114, s11_116, s11_117, s11_118, s11_121, s11_123, s11_125, s11_126, s11_127, s11_128, s11_130, s11_131, s11_134, s11_137, s11_140, s11_143, s11_146, is_O, opt_s, opt_n, cat_0, cat_i, cat_r, true_and, Nat.zero_le, Nat.reduceAdd, Nat.reduceLeDiff, al_I, as_I, rl_R, ln_I, ln_R, nI_add, pk_mul, g_set, set_set, not_false_eq_true, gf0_0, gf0_1, gf0_2, gf1_0, gf1_1, gf1_2, gf1_3, gf1_4, gf1_5, gf1_6, gf1_7, gf1_8, gf1_9, gf1_10, gf1_11, gf2_0, gf2_1, gf2_2, gf3_0, gf3_1, gf4_0, gf4_1, gf4_2, gf5_0, gf5_1, gf5_2, gf5_3, gf6_0, gf6_1, gf6_2, gf6_3, gf6_4, gf6_5, gf6_6, gf7_0, gf7_1, gf7_2, gf7_3, gf7_4, gf7_5, pf0_0, pf0_1, pf0_2, pf1_0, pf1_1, pf1_2, pf1_3, pf1_4, pf1_5, pf1_6, pf1_7, pf1_8, pf1_9, pf1_10, pf1_11, pf2_0, pf2_1, pf2_2, pf3_0, pf3_1, pf4_0, pf4_1, pf4_2, pf5_0, pf5_1, pf5_2, pf5_3, pf6_0, pf6_1, pf6_2, pf6_3, pf6_4, pf6_5, pf6_6, pf7_0, pf7_1, pf7_2, pf7_3, pf7_4, pf7_5, ga, u1]
    rw [if_pos ((nI_l1 (by omega) (by omega)).mpr (by omega))]
    exact hX H f5 f6 f7 f8 hH hK hc hw
  | succ n ih =>
    intro k l4 l5 l6 H f5 f6 f7 f8 hn hH hK hc hw
    have hk : k < tC v := by omega
    have hl := tLw1 h1 h2 hk
    have ga := hK.1
    obtain ⟨fc', w2, u1, u2, u3, u4⟩ := hK.txt h1 h2
    rw [s11_29]
    simp only [s11_0, s11_1, s11_4, s11_7, s11_9, s11_10, s11_11, s11_12, s11_13, s11_16, s11_17, s11_20, s11_21, s11_24, s11_25, s11_26, s11_27, s11_28, s11_30, s11_31, s11_34, s11_37, s11_40, s11_41, s11_42, s11_43, s11_45, s11_46, s11_50, s11_51, s11_54, s11_57, s11_58, s11_60, s11_61, s11_64, s11_66, s11_67, s11_70, s11_72, s11_73, s11_75, s11_76, s11_79, s11_81, s11_82, s11_83, s11_86, s11_87, s11_88, s11_89, s11_92, s11_93, s11_96, s11_98, s11_99, s11_102, s11_104, s11_105, s11_106, s11_107, s11_108, s11_109, s11_112, s11_114, s11_116, s11_117, s11_118, s11_121, s11_123, s11_125, s11_126, s11_127, s11_128, s11_130, s11_131, s11_134, s11_137, s11_140, s11_143, s11_146, is_O, opt_s, opt_n, cat_0, cat_i, cat_r, true_and, Nat.zero_le, Nat.reduceAdd, Nat.reduceLeDiff, al_I, as_I, rl_R, ln_I, ln_R, nI_add, pk_mul, g_set, set_set, not_false_eq_true, gf0_0, gf0_1, gf0_2, gf1_0, gf1_1, gf1_2, gf1_3, gf1_4, gf1_5, gf1_6, gf1_7, gf1_8, gf1_9, gf1_10, gf1_11, gf2_0, gf2_1, gf2_2, gf3_0, gf3_1, gf4_0, gf4_1, gf4_2, gf5_0, gf5_1, gf5_2, gf5_3, gf6_0, gf6_1, gf6_2, gf6_3, gf6_4, gf6_5, gf6_6, gf7_0, gf7_1, gf7_2, gf7_3, gf7_4, gf7_5, pf0_0, pf0_1, pf0_2, pf1_0, pf1_1, pf1_2, pf1_3, pf1_4, pf1_5, pf1_6, pf1_7, pf1_8, pf1_9, pf1_10, pf1_11, pf2_0, pf2_1, pf2_2, pf3_0, pf3_1, pf4_0, pf4_1, pf4_2, pf5_0, pf5_1, pf5_2, pf5_3, pf6_0, pf6_1, pf6_2, pf6_3, pf6_4, pf6_5, pf6_6, pf7_0, pf7_1, pf7_2, pf7_3, pf7_4, pf7_5, ga, u1, hc.2.2.2, xi_n hk (show tC v < 2147483648 by omega), hw.1 k hl.1]
    rw [if_neg (fun z => absurd ((nI_l1 (by omega) (by omega)).mp z) (by omega))]
    refine l_w48 h1 h2 hk hh (fun G g5 g6 g7 g8 l5 l6 hG hKG hcG hwG => ?_) (v - 1) 1 _ H f5 f6 f7 f8 (by omega) (by decide) hl.1 hH hK hc hw
    rw [hl.2.1] at hwG ⊢
    simp only [s11_140, s11_143, nI_add]
    exact ih (k + 1) _ _ _ G g5 g6 g7 g8 (by omega) hG hKG hcG hwG
theorem m_findWays {f5 f6 f7 : Nat → Int32} (h1 : 1 ≤ v) (h2 : v ≤ 5) (hn : h.1 = a + eO v + 8) (hD : DKw v a c3 h) (hh : hkC v a h) (e5 : ex_g h (a + eO v + 5) = some (cI (tC v) f5)) (e6 : ex_g h (a + eO v + 6) = some (cI (tC v) f6)) (e7 : ex_g h (a + eO v + 7) = some (cI (tC v) f7)) (hX : ∀ H f5 f6 f7 f8, H.1 = h.1 + 1 → H.2.1 = h.2.1 + tC v → (∀ q, q < a + eO v ∨ q = a + eO v + 4 → ex_g H q = ex_g h q) → DKw v a c3 H → wC v a f5 f6 f7 f8 H → wS v (tC v) f5 f6 f7 f8 → X none H) : ex_W 11 0 [.ref a, oU, oU, oU, oU, oU, oU] [] h X := by
  have hC := tC_le h1 h2
  obtain ⟨_, l1, l2⟩ := cLd h1 h2
  obtain ⟨w0, w1, w2, w3, w4⟩ := tLw0 h1 h2
  have ga := hD.1
  obtain ⟨fc', w', u1, u2, u3, u4⟩ := hD.txt h1 h2
  have na : ¬ a = h.1 := by omega
  have hK1 : DKw v a c3 (ex_new h (cI (tC v) (fun _ => 0)) (tC v)) := hD.fr h1 h2 (fun q q1 q2 => g_newn (by omega))
  have ga1 := hK1.1
  simp only [s11_0, s11_1, s11_4, s11_7, s11_9, s11_10, s11_11, s11_12, s11_13, s11_16, s11_17, s11_20, s11_21, s11_24, s11_25, s11_26, s11_27, s11_28, s11_30, s11_31, s11_34, s11_37, s11_40, s11_41, s11_42, s11_43, s11_45, s11_46, s11_48, s11_50, s11_51, s11_54, s11_57, s11_58, s11_60, s11_61, s11_64, s11_66, s11_67, s11_70, s11_72, s11_73, s11_75, s11_76, s11_79, s11_81, s11_82, s11_83, s11_86, s11_87, s11_88, s11_89, s11_92, s11_93, s11_96, s11_98, s11_99, s11_102, s11_104, s11_105, s11_106, s11_107, s11_108, s11_109, s11_112, s11_114, s11_116, s11_117, s11_118, s11_121, s11_123, s11_125, s11_126, s11_127, s11_128, s11_130, s11_131, s11_134, s11_137, s11_140, s11_143, s11_146, is_O, opt_s, opt_n, cat_0, cat_i, cat_r, true_and, Nat.zero_le, Nat.reduceAdd, Nat.reduceLeDiff, al_I, as_I, rl_R, ln_I, ln_R, nI_add, pk_mul, g_set, set_set, not_false_eq_true, gf0_0, gf0_1, gf0_2, gf1_0, gf1_1, gf1_2, gf1_3, gf1_4, gf1_5, gf1_6, gf1_7, gf1_8, gf1_9, gf1_10, gf1_11, gf2_0, gf2_1, gf2_2, gf3_0, gf3_1, gf4_0, gf4_1, gf4_2, gf5_0, gf5_1, gf5_2, gf5_3, gf6_0, gf6_1, gf6_2, gf6_3, gf6_4, gf6_5, gf6_6, gf7_0, gf7_1, gf7_2, gf7_3, gf7_4, gf7_5, pf0_0, pf0_1, pf0_2, pf1_0, pf1_1, pf1_2, pf1_3, pf1_4, pf1_5, pf1_6, pf1_7, pf1_8, pf1_9, pf1_10, pf1_11, pf2_0, pf2_1, pf2_2, pf3_0, pf3_1, pf4_0, pf4_1, pf4_2, pf5_0, pf5_1, pf5_2, pf5_3, pf6_0, pf6_1, pf6_2, pf6_3, pf6_4, pf6_5, pf6_6, pf7_0, pf7_1, pf7_2, pf7_3, pf7_4, pf7_5, ga, u1, na_n (show tC v ≤ 100000 by omega), ga1]
  refine m_fill (by omega) ((g_newn (by omega)).trans e5) (fun G g hG hg hgx => ?_)
  have hKG : DKw v a c3 G := hK1.fr h1 h2 (fun q q1 q2 => hG.2.2 q (by simp; omega))
  have gaG := hKG.1
  simp only [s11_0, s11_1, s11_4, s11_7, s11_9, s11_10, s11_11, s11_12, s11_13, s11_16, s11_17, s11_20, s11_21, s11_24, s11_25, s11_26, s11_27, s11_28, s11_30, s11_31, s11_34, s11_37, s11_40, s11_41, s11_42, s11_43, s11_45, s11_46, s11_48, s11_50, s11_51, s11_54, s11_57, s11_58, s11_60, s11_61, s11_64, s11_66, s11_67, s11_70, s11_72, s11_73, s11_75, s11_76, s11_79, s11_81, s11_82, s11_83, s11_86, s11_87, s11_88, s11_89, s11_92, s11_93, s11_96, s11_98, s11_99, s11_102, s11_104, s11_105, s11_106, s11_107, s11_108, s11_109, s11_112, s11_114, s11_116, s11_117, s11_118, s11_121, s11_123, s11_125, s11_126, s11_127, s11_128, s11_130, s11_131, s11_134, s11_137, s11_140, s11_143, s11_146, is_O, opt_s, opt_n, cat_0, cat_i, cat_r, true_and, Nat.zero_le, Nat.reduceAdd, Nat.reduceLeDiff, al_I, as_I, rl_R, ln_I, ln_R, nI_add, pk_mul, g_set, set_set, not_false_eq_true, gf0_0, gf0_1, gf0_2, gf1_0, gf1_1, gf1_2, gf1_3, gf1_4, gf1_5, gf1_6, gf1_7, gf1_8, gf1_9, gf1_10, gf1_11, gf2_0, gf2_1, gf2_2, gf3_0, gf3_1, gf4_0, gf4_1, gf4_2, gf5_0, gf5_1, gf5_2, gf5_3, gf6_0, gf6_1, gf6_2, gf6_3, gf6_4, gf6_5, gf6_6, gf7_0, gf7_1, gf7_2, gf7_3, gf7_4, gf7_5, pf0_0, pf0_1, pf0_2, pf1_0, pf1_1, pf1_2, pf1_3, pf1_4, pf1_5, pf1_6, pf1_7, pf1_8, pf1_9, pf1_10, pf1_11, pf2_0, pf2_1, pf2_2, pf3_0, pf3_1, pf4_0, pf4_1, pf4_2, pf5_0, pf5_1, pf5_2, pf5_3, pf6_0, pf6_1, pf6_2, pf6_3, pf6_4, pf6_5, pf6_6, pf7_0, pf7_1, pf7_2, pf7_3, pf7_4, pf7_5, gaG, hg, xi_n (show 0 < tC v by omega) (show tC v < 2147483648 by omega)]
  have hb : chW v a (ex_new h (cI (tC v) (fun _ => 0)) (tC v)) (ex_set G (a + eO v + 5) (cI (tC v) (upd g 0 (nI 0)))) := ⟨hG.1, hG.2.1, fun q hq => by rw [g_ne (by omega)]; exact hG.2.2 q (by simp; omega)⟩
  have hh1 : hkC v a (ex_new h (cI (tC v) (fun _ => 0)) (tC v)) := by
    obtain ⟨fh, q1, q2⟩ := hh
    exact ⟨fh, (g_newn (by omega)).trans q1, q2⟩
  have := l_w29 (X := X) (c3 := c3) h1 h2 hh1 (fun E g5 g6 g7 g8 hE hKE hcE hwE => ?_) (tC v) 0 oU oU oU (ex_set G (a + eO v + 5) (cI (tC v) (upd g 0 (nI 0)))) (upd g 0 (nI 0)) f6 f7 (fun _ => 0) (by omega) hb (hKG.set h1 h2 (by omega)) ⟨g_set, ?_, ?_, ?_⟩ ⟨fun j hj => ?_, fun e he => ?_, fun e he he0 hew => ?_⟩
  · rw [w0, ← hn] at this
    exact this
  · refine hX E g5 g6 g7 g8 ?_ ?_ (fun q hq => ?_) hKE hcE hwE
    · rw [hE.1, new_1]
    · rw [hE.2.1, new_2]
    · rw [hE.2.2 q (by omega), g_newn (by omega)]
  · rw [g_ne (by omega), hG.2.2 _ (by simp), g_newn (by omega)]; exact e6
  · rw [g_ne (by omega), hG.2.2 _ (by simp), g_newn (by omega)]; exact e7
  · rw [g_ne (by omega), hG.2.2 _ (by simp), ← hn]; exact g_new
  · rw [w0] at hj
    obtain rfl : j = 0 := by omega
    rw [w2]
    rfl
  · rw [w0]
    by_cases he0 : e = 0
    · rw [he0, pk_us, w3, if_pos (by decide), w4]
    · rw [pk_un he0, hgx e he, if_neg (fun z => he0 (tWp_inj h1 h2 he (show 0 < tC v by omega) (by omega)))]
  · rw [w0] at hew
    exact absurd (tWp_inj h1 h2 he (show 0 < tC v by omega) (by omega)) he0
def DG (v a : Nat) (h : ex_Hp) : Prop := DKw v a (.ref (a + 7 + tC v)) h ∧ hkC v a h ∧ (∃ f5 f6 f7, ex_g h (a + eO v + 5) = some (cI (tC v) f5) ∧ ex_g h (a + eO v + 6) = some (cI (tC v) f6) ∧ ex_g h (a + eO v + 7) = some (cI (tC v) f7) ∧ ∀ d, d < tC v → f5 d = nI (tStep v d) ∧ (¬ d = 0 → f6 d = nI (tBf v d) ∧ f7 d = nI (tLh v d))) ∧ ex_g h (a + 7 + tC v) = some (cR 5 (v + 1) (fun r => if okR v r then some (a + hO v ((v - r) / 2)) else none)) ∧ ∀ r, okR v r → TX v r (a + hO v ((v - r) / 2)) h
theorem hO_k : all5 (fun v => allN 6 (fun r => !(decide (okR v r)) || decide (8 + tC v ≤ hO v ((v - r) / 2) ∧ hO v ((v - r) / 2) + 6 + tHn v r ≤ eO v ∧ (if r = 0 then vP v 0 else vP v r) ∧ (cL v r).length = tHn v r) && allN (tHn v r) (fun i => allN v (fun j => decide (rL v r i j = hF v r i j))))) = true := by decide +kernel
theorem hO_r {r : Nat} (h1 : 1 ≤ v) (h2 : v ≤ 5) (hr : okR v r) : 8 + tC v ≤ hO v ((v - r) / 2) ∧ hO v ((v - r) / 2) + 6 + tHn v r ≤ eO v ∧ vP v r ∧ (cL v r).length = tHn v r := by
  have q := allN_of (all5_of hO_k h1 h2) (show r < 6 by have := hr.1; omega)
  rw [Bool.or_eq_true, Bool.and_eq_true] at q
  rcases q with q | q
  · simp [hr] at q
  · have q := of_decide_eq_true q.1
    refine ⟨q.1, q.2.1, ?_, q.2.2.2⟩
    have := q.2.2.1
    by_cases h0 : r = 0
    · rw [if_pos h0] at this
      rw [h0]
      exact this
    · rw [if_neg h0] at this
      exact this
theorem hO_e {r i j : Nat} (h1 : 1 ≤ v) (h2 : v ≤ 5) (hr : okR v r) (hi : i < tHn v r) (hj : j < v) : rL v r i j = hF v r i j := by
  have q := allN_of (all5_of hO_k h1 h2) (show r < 6 by have := hr.1; omega)
  rw [Bool.or_eq_true, Bool.and_eq_true] at q
  rcases q with q | q
  · simp [hr] at q
  · exact of_decide_eq_true (allN_of (allN_of q.2 hi) hj)
theorem DG.fr (h1 : 1 ≤ v) (h2 : v ≤ 5) (hD : DG v a h) (hq : ∀ q, a ≤ q → q < a + eO v + 8 → ex_g H q = ex_g h q) : DG v a H := by
  obtain ⟨d1, ⟨fh, d2, d3⟩, ⟨f5, f6, f7, d4, d5, d6, d7⟩, d8, d9⟩ := hD
  obtain ⟨_, l1, l2⟩ := cLd h1 h2
  refine ⟨d1.fr h1 h2 (fun q q1 q2 => hq q q1 (by omega)), ⟨fh, ?_, d3⟩, ⟨f5, f6, f7, ?_, ?_, ?_, d7⟩, ?_, fun r hr => ?_⟩
  · rw [hq _ (by omega) (by omega)]; exact d2
  · rw [hq _ (by omega) (by omega)]; exact d4
  · rw [hq _ (by omega) (by omega)]; exact d5
  · rw [hq _ (by omega) (by omega)]; exact d6
  · rw [hq _ (by omega) (by omega)]; exact d8
  · obtain ⟨k1, k2, k3, k4⟩ := hO_r h1 h2 hr
    exact (d9 r hr).fr (fun q q1 q2 => hq q (by omega) (by omega))
theorem DG.ch (h1 : 1 ≤ v) (h2 : v ≤ 5) (hD : DG v a h) (hc : chD v a h H) (hK : DKw v a (.ref (a + 7 + tC v)) H) : DG v a H := by
  obtain ⟨d1, ⟨fh, d2, d3⟩, ⟨f5, f6, f7, d4, d5, d6, d7⟩, d8, d9⟩ := hD
  obtain ⟨_, l1, l2⟩ := cLd h1 h2
  refine ⟨hK, ⟨fh, ?_, d3⟩, ⟨f5, f6, f7, ?_, ?_, ?_, d7⟩, ?_, fun r hr => ?_⟩
  · rw [hc.2.2 _ (by omega)]; exact d2
  · rw [hc.2.2 _ (by omega)]; exact d4
  · rw [hc.2.2 _ (by omega)]; exact d5
  · rw [hc.2.2 _ (by omega)]; exact d6
  · rw [hc.2.2 _ (by omega)]; exact d8
  · obtain ⟨k1, k2, k3, k4⟩ := hO_r h1 h2 hr
    exact (d9 r hr).fr (fun q q1 q2 => hc.2.2 q (by omega))
theorem m_wayLength (h1 : 1 ≤ v) (h2 : v ≤ 5) (hd : d < tC v) (hD : DG v a h) : ex_W 12 0 [.ref a, .int (nI d)] [] h X ↔ X (some (.int (nI (tStep v d)))) h := by
  have hC := tC_le h1 h2
  obtain ⟨d1, _, ⟨f5, f6, f7, d4, d5, d6, d7⟩, _⟩ := hD
  have ga := d1.1
  simp only [s12_0, s12_1, s12_4, s12_5, s12_6, is_O, opt_s, opt_n, cat_0, cat_i, cat_r, true_and, Nat.zero_le, Nat.reduceAdd, Nat.reduceLeDiff, al_I, as_I, rl_R, ln_I, ln_R, nI_add, pk_mul, g_set, set_set, not_false_eq_true, gf0_0, gf0_1, gf0_2, gf1_0, gf1_1, gf1_2, gf1_3, gf1_4, gf1_5, gf1_6, gf1_7, gf1_8, gf1_9, gf1_10, gf1_11, gf2_0, gf2_1, gf2_2, gf3_0, gf3_1, gf4_0, gf4_1, gf4_2, gf5_0, gf5_1, gf5_2, gf5_3, gf6_0, gf6_1, gf6_2, gf6_3, gf6_4, gf6_5, gf6_6, gf7_0, gf7_1, gf7_2, gf7_3, gf7_4, gf7_5, pf0_0, pf0_1, pf0_2, pf1_0, pf1_1, pf1_2, pf1_3, pf1_4, pf1_5, pf1_6, pf1_7, pf1_8, pf1_9, pf1_10, pf1_11, pf2_0, pf2_1, pf2_2, pf3_0, pf3_1, pf4_0, pf4_1, pf4_2, pf5_0, pf5_1, pf5_2, pf5_3, pf6_0, pf6_1, pf6_2, pf6_3, pf6_4, pf6_5, pf6_6, pf7_0, pf7_1, pf7_2, pf7_3, pf7_4, pf7_5, ga, d4, xi_n hd (show tC v < 2147483648 by omega), (d7 d hd).1]
theorem l_wh {i : Nat} {l1 : Value} (h1 : 1 ≤ v) (h2 : v ≤ 5) (hD : DG v a h) (hi : i < 100) : ∀ (n d : Nat), d < tC v → n < 50 → (n = 0 → ¬ d = 0) → (∀ m, m ≤ n → ¬ wya v m d = 0) → X (some (.int (nI (tLh v (wya v n d))))) h → ex_W 13 29 [.ref a, l1, .int (nI i), .int (nI d), .int (nI (i + n))] [] h X := by
  have hC := tC_le h1 h2
  obtain ⟨d1, _, ⟨f5, f6, f7, d4, d5, d6, d7⟩, _⟩ := hD
  have ga := d1.1
  intro n
  induction n with
  | zero =>
    intro d hd hn h0 hm hX
    rw [s13_29]
    simp only [s13_0, s13_1, s13_4, s13_5, s13_6, s13_9, s13_10, s13_11, s13_14, s13_16, s13_17, s13_18, s13_19, s13_20, s13_23, s13_24, s13_25, s13_26, s13_27, s13_31, s13_32, s13_35, s13_36, s13_39, s13_40, s13_41, s13_42, s13_45, s13_48, s13_49, s13_52, s13_53, s13_54, is_O, opt_s, opt_n, cat_0, cat_i, cat_r, true_and, Nat.zero_le, Nat.reduceAdd, Nat.reduceLeDiff, al_I, as_I, rl_R, ln_I, ln_R, nI_add, pk_mul, g_set, set_set, not_false_eq_true, gf0_0, gf0_1, gf0_2, gf1_0, gf1_1, gf1_2, gf1_3, gf1_4, gf1_5, gf1_6, gf1_7, gf1_8, gf1_9, gf1_10, gf1_11, gf2_0, gf2_1, gf2_2, gf3_0, gf3_1, gf4_0, gf4_1, gf4_2, gf5_0, gf5_1, gf5_2, gf5_3, gf6_0, gf6_1, gf6_2, gf6_3, gf6_4, gf6_5, gf6_6, gf7_0, gf7_1, gf7_2, gf7_3, gf7_4, gf7_5, pf0_0, pf0_1, pf0_2, pf1_0, pf1_1, pf1_2, pf1_3, pf1_4, pf1_5, pf1_6, pf1_7, pf1_8, pf1_9, pf1_10, pf1_11, pf2_0, pf2_1, pf2_2, pf3_0, pf3_1, pf4_0, pf4_1, pf4_2, pf5_0, pf5_1, pf5_2, pf5_3, pf6_0, pf6_1, pf6_2, pf6_3, pf6_4, pf6_5, pf6_6, pf7_0, pf7_1, pf7_2, pf7_3, pf7_4, pf7_5, ga]
    rw [if_pos ((nI_l1 (by omega) (by omega)).mpr (by omega))]
    simp only [d6, is_O, opt_s, opt_n, cat_0, cat_i, cat_r, true_and, Nat.zero_le, Nat.reduceAdd, Nat.reduceLeDiff, al_I, as_I, rl_R, ln_I, ln_R, nI_add, pk_mul, g_set, set_set, not_false_eq_true, gf0_0, gf0_1, gf0_2, gf1_0, gf1_1, gf1_2, gf1_3, gf1_4, gf1_5, gf1_6, gf1_7, gf1_8, gf1_9, gf1_10, gf1_11, gf2_0, gf2_1, gf2_2, gf3_0, gf3_1, gf4_0, gf4_1, gf4_2, gf5_0, gf5_1, gf5_2, gf5_3, gf6_0, gf6_1, gf6_2, gf6_3, gf6_4, gf6_5, gf6_6, gf7_0, gf7_1, gf7_2, gf7_3, gf7_4, gf7_5, pf0_0, pf0_1, pf0_2, pf1_0, pf1_1, pf1_2, pf1_3, pf1_4, pf1_5, pf1_6, pf1_7, pf1_8, pf1_9, pf1_10, pf1_11, pf2_0, pf2_1, pf2_2, pf3_0, pf3_1, pf4_0, pf4_1, pf4_2, pf5_0, pf5_1, pf5_2, pf5_3, pf6_0, pf6_1, pf6_2, pf6_3, pf6_4, pf6_5, pf6_6, pf7_0, pf7_1, pf7_2, pf7_3, pf7_4, pf7_5, xi_n hd (show tC v < 2147483648 by omega), ((d7 d hd).2 (h0 rfl)).2]
    exact hX
  | succ n ih =>
    intro d hd hn h0 hm hX
    rw [wya] at hX
    have hd0 : ¬ d = 0 := hm 0 (by omega)
    have hb := (tTu_lt h1 h2 hd).2.2.2.1
    rw [s13_29]
    simp only [s13_0, s13_1, s13_4, s13_5, s13_6, s13_9, s13_10, s13_11, s13_14, s13_16, s13_17, s13_18, s13_19, s13_20, s13_23, s13_24, s13_25, s13_26, s13_27, s13_31, s13_32, s13_35, s13_36, s13_39, s13_40, s13_41, s13_42, s13_45, s13_49, s13_52, s13_53, s13_54, is_O, opt_s, opt_n, cat_0, cat_i, cat_r, true_and, Nat.zero_le, Nat.reduceAdd, Nat.reduceLeDiff, al_I, as_I, rl_R, ln_I, ln_R, nI_add, pk_mul, g_set, set_set, not_false_eq_true, gf0_0, gf0_1, gf0_2, gf1_0, gf1_1, gf1_2, gf1_3, gf1_4, gf1_5, gf1_6, gf1_7, gf1_8, gf1_9, gf1_10, gf1_11, gf2_0, gf2_1, gf2_2, gf3_0, gf3_1, gf4_0, gf4_1, gf4_2, gf5_0, gf5_1, gf5_2, gf5_3, gf6_0, gf6_1, gf6_2, gf6_3, gf6_4, gf6_5, gf6_6, gf7_0, gf7_1, gf7_2, gf7_3, gf7_4, gf7_5, pf0_0, pf0_1, pf0_2, pf1_0, pf1_1, pf1_2, pf1_3, pf1_4, pf1_5, pf1_6, pf1_7, pf1_8, pf1_9, pf1_10, pf1_11, pf2_0, pf2_1, pf2_2, pf3_0, pf3_1, pf4_0, pf4_1, pf4_2, pf5_0, pf5_1, pf5_2, pf5_3, pf6_0, pf6_1, pf6_2, pf6_3, pf6_4, pf6_5, pf6_6, pf7_0, pf7_1, pf7_2, pf7_3, pf7_4, pf7_5, ga, d5, xi_n hd (show tC v < 2147483648 by omega), ((d7 d hd).2 hd0).1]
    rw [if_neg (fun z => absurd ((nI_l1 (by omega) (by omega)).mp z) (by omega))]
    have e : nI (i + (n + 1)) - nI 1 = nI (i + n) := by rw [pk_sub (by omega), show i + (n + 1) - 1 = i + n by omega]
    rw [e]
    exact ih _ hb (by omega) (fun z => by have := hm 1 (by omega); exact this) (fun m hm2 => by have := hm (m + 1) (by omega); exact this) hX
theorem tWa_k : all5 (fun v => allN (tC v) (fun d => allN (tStep v d) (fun m => decide (wya v m d ≠ 0)))) = true := by decide +kernel
theorem m_wayHook {z : Int32} (h1 : 1 ≤ v) (h2 : v ≤ 5) (hd : d < tC v) (hD : DG v a h) (hX : X (some (.int (if nI 0 ≤ z ∧ z < nI (tStep v d) then nI (tWy v d (ix z)) else -6))) h) : ex_W 13 0 [.ref a, .int (nI d), .int z, oU, oU] [] h X := by
  have hC := tC_le h1 h2
  have hst := (tTu_lt h1 h2 hd).2.2.2.2.2
  obtain ⟨d1, _, ⟨f5, f6, f7, d4, d5, d6, d7⟩, _⟩ := id hD
  have ga := d1.1
  simp only [s13_0, s13_1, s13_4, s13_5, s13_6, s13_9, s13_10, s13_11, s13_14, s13_16, s13_17, s13_18, s13_19, s13_20, s13_23, s13_24, s13_25, s13_26, s13_27, s13_31, s13_32, s13_35, s13_36, s13_39, s13_40, s13_41, s13_42, s13_45, s13_48, s13_49, s13_52, s13_53, s13_54, is_O, opt_s, opt_n, cat_0, cat_i, cat_r, true_and, Nat.zero_le, Nat.reduceAdd, Nat.reduceLeDiff, al_I, as_I, rl_R, ln_I, ln_R, nI_add, pk_mul, g_set, set_set, not_false_eq_true, gf0_0, gf0_1, gf0_2, gf1_0, gf1_1, gf1_2, gf1_3, gf1_4, gf1_5, gf1_6, gf1_7, gf1_8, gf1_9, gf1_10, gf1_11, gf2_0, gf2_1, gf2_2, gf3_0, gf3_1, gf4_0, gf4_1, gf4_2, gf5_0, gf5_1, gf5_2, gf5_3, gf6_0, gf6_1, gf6_2, gf6_3, gf6_4, gf6_5, gf6_6, gf7_0, gf7_1, gf7_2, gf7_3, gf7_4, gf7_5, pf0_0, pf0_1, pf0_2, pf1_0, pf1_1, pf1_2, pf1_3, pf1_4, pf1_5, pf1_6, pf1_7, pf1_8, pf1_9, pf1_10, pf1_11, pf2_0, pf2_1, pf2_2, pf3_0, pf3_1, pf4_0, pf4_1, pf4_2, pf5_0, pf5_1, pf5_2, pf5_3, pf6_0, pf6_1, pf6_2, pf6_3, pf6_4, pf6_5, pf6_6, pf7_0, pf7_1, pf7_2, pf7_3, pf7_4, pf7_5, ga, d4, xi_n hd (show tC v < 2147483648 by omega), (d7 d hd).1]
  by_cases hz : z < nI 0
  · rw [if_neg (fun q => absurd hz (Int32.not_lt.mpr q.1))] at hX
    rw [if_pos hz]
    exact hX
  · rw [if_neg hz]
    have hz0 := Int32.not_lt.mp hz
    by_cases hz2 : z < nI (tStep v d)
    · rw [if_pos ⟨hz0, hz2⟩] at hX
      rw [if_pos hz2]
      rcases pk_ix z (n := tStep v d) (by have e : (2:Nat)^31 = 2147483648 := rfl; omega) with k | k | ⟨j, j1, rfl⟩
      · exact absurd k hz
      · exact absurd hz2 (Int32.not_lt.mpr k)
      · rw [ix_n (by omega)] at hX
        have e : nI (tStep v d) - nI 1 = nI (j + (tStep v d - 1 - j)) := by rw [pk_sub (by omega), show j + (tStep v d - 1 - j) = tStep v d - 1 by omega]
        rw [e]
        have hk := fun m (hm : m ≤ tStep v d - 1 - j) => of_decide_eq_true (allN_of (allN_of (all5_of tWa_k h1 h2) hd) (show m < tStep v d by omega))
        exact l_wh h1 h2 hD (by omega) (tStep v d - 1 - j) d hd (by omega) (fun _ => hk 0 (by omega)) hk hX
    · rw [if_neg (fun q => hz2 q.2)] at hX
      rw [if_neg hz2]
      exact hX
end C8
