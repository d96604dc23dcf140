/-! NUMBERS of the class -/
def nF (p v : Int32) : Int32 := if nI 2 ≤ p then (if nI 0 ≤ v - v / p * p then v - v / p * p else v - v / p * p + p) else nI 0
theorem nF_rem {p : Nat} {x : Int32} (hp : 2 ≤ p) (hp2 : p < 32768) : (x - x / nI p * nI p).toInt = x.toInt.tmod p := by
  have hpi : (nI p).toInt = (p : Int) := nI_toInt (by omega)
  have h1 : nI p ≠ -1 := fun z => by
    have := congrArg Int32.toInt z
    rw [hpi] at this
    simp at this
  have b := tmod_bounds (a := x.toInt) (M := (p : Int)) (by omega)
  rw [Int32.toInt_sub, Int32.toInt_mul, Int32.toInt_div_of_ne_right _ _ h1, hpi, Int.sub_bmod_bmod]
  have e : x.toInt - x.toInt.tdiv p * p = x.toInt.tmod p := by
    have := Int.mul_tdiv_add_tmod x.toInt p
    have h2 := Int.mul_comm (p : Int) (x.toInt.tdiv p)
    omega
  rw [e]
  exact Int.bmod_eq_of_le (by omega) (by omega)
theorem nF_int {p : Nat} {x : Int32} (hp : 2 ≤ p) (hp2 : p < 32768) : (nF (nI p) x).toInt = x.toInt % (p : Int) := by
  have hpi : (nI p).toInt = (p : Int) := nI_toInt (by omega)
  have b := tmod_bounds (a := x.toInt) (M := (p : Int)) (by omega)
  have e : x.toInt % (p : Int) = x.toInt.tmod p % (p : Int) := by
    have := Int.mul_tdiv_add_tmod x.toInt p
    conv => lhs; rw [← this]
    rw [Int.add_comm, Int.add_mul_emod_self_left]
  unfold nF
  rw [if_pos (nI_le hp (by omega))]
  by_cases h : nI 0 ≤ x - x / nI p * nI p
  · rw [if_pos h, nF_rem hp hp2, e]
    have h0 : 0 ≤ (x - x / nI p * nI p).toInt := by
      have := Int32.le_iff_toInt_le.mp h
      rw [nI_toInt (by decide)] at this
      exact this
    rw [nF_rem hp hp2] at h0
    rw [Int.emod_eq_of_lt h0 b.2]
  · rw [if_neg h, Int32.toInt_add, nF_rem hp hp2, hpi, e]
    have h0 : (x - x / nI p * nI p).toInt < 0 := Int.not_le.mp (fun z => h (Int32.le_iff_toInt_le.mpr (by rw [nI_toInt (by decide)]; exact z)))
    rw [nF_rem hp hp2] at h0
    rw [Int.bmod_eq_of_le (by omega) (by omega), ← Int.add_emod_right, Int.emod_eq_of_lt (by omega) (by omega)]
theorem nF_n {p a : Nat} (hp : 2 ≤ p) (hp2 : p < 32768) (ha : a < 2147483648) : nF (nI p) (nI a) = nI (a % p) := by
  apply Int32.toInt_inj.mp
  have hm : a % p < p := Nat.mod_lt _ (by omega)
  rw [nF_int hp hp2, nI_toInt (by simpa using ha), nI_toInt (by omega)]
  exact (Int.natCast_emod a p).symm
theorem nF_s {p a b : Nat} (hp : 2 ≤ p) (hp2 : p < 32768) (ha : a < 1073741824) (hb : b ≤ p) : nF (nI p) (nI a - nI b) = nI ((a + p - b) % p) := by
  apply Int32.toInt_inj.mp
  have hm : (a + p - b) % p < p := Nat.mod_lt _ (by omega)
  rw [nF_int hp hp2, pk_sub_toInt (by simpa using ha) (by omega), nI_toInt (by omega), Int.natCast_emod, ← Int.add_emod_right]
  congr 1
  omega
abbrev oNum (p lo : Int32) (lp : Nat) : ex_AC := cO 2 [.int p, .int lo, .ref lp]
section NUM
variable {h : ex_Hp} {nb lp : Nat} {X : Option Value → ex_Hp → Prop}
theorem m_leftOver {p lo v : Int32} (hn : ex_g h nb = some (oNum p lo lp)) : ex_W 28 0 [.ref nb, .int v, oU] [] h X ↔ X (some (.int (nF p v))) h := by
  simp only [s28_0, s28_1, s28_4, s28_5, s28_8, s28_9, s28_10, s28_11, s28_12, s28_15, s28_16, s28_17, s28_18, s28_21, s28_22, s28_23, s28_26, s28_27, s28_30, s28_31, hn, gf2_0, nF]
  by_cases h1 : nI 2 ≤ p
  · have h2 : ¬ p = 0 := fun z => by rw [z] at h1; exact absurd h1 (by decide)
    simp only [h1, if_true, h2, not_false_eq_true, true_and]
    split <;> rfl
  · simp only [h1, if_false]
theorem m_add {p lo x z : Int32} (hn : ex_g h nb = some (oNum p lo lp)) : ex_W 29 0 [.ref nb, .int x, .int z] [] h X ↔ X (some (.int (nF p (x + z)))) h := by
  simp only [s29_0, s29_1, s29_2, s29_3, s29_4, s29_7, hn, is_O, m_leftOver hn, opt_s, cat_0, true_and, Nat.zero_le]
theorem m_sub {p lo x z : Int32} (hn : ex_g h nb = some (oNum p lo lp)) : ex_W 30 0 [.ref nb, .int x, .int z] [] h X ↔ X (some (.int (nF p (x - z)))) h := by
  simp only [s30_0, s30_1, s30_2, s30_3, s30_4, s30_7, hn, is_O, m_leftOver hn, opt_s, cat_0, true_and, Nat.zero_le]
theorem m_mul {p lo x z : Int32} (hn : ex_g h nb = some (oNum p lo lp)) : ex_W 31 0 [.ref nb, .int x, .int z] [] h X ↔ X (some (.int (nF p (x * z)))) h := by
  simp only [s31_0, s31_1, s31_2, s31_3, s31_4, s31_7, hn, is_O, m_leftOver hn, opt_s, cat_0, true_and, Nat.zero_le]
theorem nF_mul {p a b : Nat} (hp : 2 ≤ p) (hp2 : p ≤ 101) (ha : a < p) (hb : b < p) : nF (nI p) (nI a * nI b) = nI (a * b % p) := by
  rw [pk_mul]
  refine nF_n hp (by omega) ?_
  have := Nat.mul_lt_mul'' ha hb
  have : p * p ≤ 101 * 101 := Nat.mul_le_mul hp2 hp2
  omega
theorem l_tell {p lo : Nat} (hp : 2 ≤ p) (hp2 : p ≤ 101) (hlo : lo < p) (hn : ex_g h nb = some (oNum (nI p) (nI lo) lp)) (hnl : ¬ nb = lp) (hX : ∀ f : Nat → Int32, (∀ j, j < 6 → f j = nI (lo ^ j % p)) → X none (ex_set h lp (cI 6 f))) : ∀ (k i : Nat) (f : Nat → Int32), i + k = 6 → 1 ≤ i → (∀ j, j < i → f j = nI (lo ^ j % p)) → ex_W 27 19 [.ref nb, .int (nI p), .int (nI lo), .int (nI i)] [] (ex_set h lp (cI 6 f)) X := by
  intro k
  induction k with
  | zero =>
    intro i f hik hi hf
    obtain rfl : i = 6 := by omega
    rw [s27_19]
    simp only [s27_0, s27_1, s27_2, s27_5, s27_6, s27_7, s27_10, s27_11, s27_14, s27_15, s27_16, s27_17, s27_18, s27_20, s27_21, s27_24, s27_25, s27_28, s27_29, s27_32, s27_33, s27_34, s27_35, s27_38, s27_39, s27_40, s27_41, s27_42, s27_43, s27_46, s27_47, s27_50, s27_53, g_ne hnl, hn, gf2_2, g_set, ln_I]
    rw [if_pos (by decide)]
    exact hX f hf
  | succ k ih =>
    intro i f hik hi hf
    have hn2 : ex_g (ex_set h lp (cI 6 f)) nb = some (oNum (nI p) (nI lo) lp) := (g_ne hnl).trans hn
    rw [s27_19]
    simp only [s27_0, s27_1, s27_2, s27_5, s27_6, s27_7, s27_10, s27_11, s27_14, s27_15, s27_16, s27_17, s27_18, s27_20, s27_21, s27_24, s27_25, s27_28, s27_29, s27_32, s27_33, s27_34, s27_35, s27_38, s27_39, s27_40, s27_41, s27_42, s27_43, s27_46, s27_47, s27_50, s27_53, hn2, gf2_2, g_set, ln_I, pk_sub hi, al_I, xi_n (show i - 1 < 6 by omega) (by decide), is_O, m_mul hn2, cat_0, cat_i, cat_r, opt_s, as_I, xi_n (show i < 6 by omega) (by decide), set_set, nI_add]
    rw [if_neg (by rw [nI_leI (by omega) (by omega)]; omega), hf (i - 1) (by omega), nF_mul hp hp2 (Nat.mod_lt _ (by omega)) hlo, Nat.mod_mul_mod, ← Nat.pow_succ, show (i - 1).succ = i by omega]
    refine ⟨by decide, trivial, ih (i + 1) _ (by omega) (by omega) (fun j hj => ?_)⟩
    by_cases hji : j = i
    · subst hji
      exact pk_us
    · rw [pk_un hji]
      exact hf j (by omega)
/-- tell: the prime, the loop and its powers -/
theorem m_tell {p lo : Nat} {p0 lo0 : Int32} {f : Nat → Int32} (hp : 2 ≤ p) (hp2 : p ≤ 101) (hlo : lo < p) (hn : ex_g h nb = some (oNum p0 lo0 lp)) (hl : ex_g h lp = some (cI 6 f)) (hX : ∀ f : Nat → Int32, (∀ j, j < 6 → f j = nI (lo ^ j % p)) → X none (ex_set (ex_set h nb (oNum (nI p) (nI lo) lp)) lp (cI 6 f))) : ex_W 27 0 [.ref nb, .int (nI p), .int (nI lo), oU] [] h X := by
  have hnl : ¬ nb = lp := fun z => by rw [z, hl] at hn; cases hn
  have hln : ¬ lp = nb := fun z => hnl z.symm
  simp only [s27_0, s27_1, s27_2, s27_5, s27_6, s27_7, s27_10, s27_11, s27_14, s27_15, s27_16, s27_17, s27_18, s27_20, s27_21, s27_24, s27_25, s27_28, s27_29, s27_32, s27_33, s27_34, s27_35, s27_38, s27_39, s27_40, s27_41, s27_42, s27_43, s27_46, s27_47, s27_50, s27_53, hn, pf2_0, g_set, pf2_1, set_set, gf2_2, g_ne hln, hl, as_I, xi_n (show 0 < 6 by decide) (show 6 < 2147483648 by decide)]
  refine l_tell hp hp2 hlo g_set hnl hX 5 1 _ (by decide) (by decide) (fun j hj => ?_)
  obtain rfl : j = 0 := by omega
  rw [pk_us, Nat.pow_zero, Nat.mod_eq_of_lt (by omega)]
end NUM
