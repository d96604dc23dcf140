/-! THE LAW -/
section C42
variable {h H : ex_Hp} {X : Option Value → ex_Hp → Prop} {c L i : Nat} {xs : Nat → Int32}
theorem l_body (hL : LI c L xs h) (hi : i + 5 ≤ L) (hL2 : L ≤ 2560) (hN : ∀ G, LI (c + 1) L xs G → ex_W 161 866 [.ref 0, .ref 1, .ref 63, .int (nI i)] [] G X) (hN2 : ex_W 161 866 [.ref 0, .ref 1, .ref 63, .int (nI i)] [] h X) : ex_W 161 26 [.ref 0, .ref 1, .ref 63, .int (nI i)] [] h X := by
  obtain ⟨⟨s1, s2⟩, o1, _⟩ := hL.ls
  simp only [s161_26, s161_27, s161_28, s161_29, s161_31, s161_32, s1, al_S, xi_n (show i < L by omega) (show L < 2147483648 by omega)]
  by_cases q0 : xs i &&& nI 31 = nI 0
  · rw [if_pos q0]
    exact c_strands hL hi hL2 hN
  rw [if_neg q0]
  by_cases q1 : xs i &&& nI 31 = nI 1
  · rw [if_pos q1]
    exact c_say hL hi hL2 hN
  rw [if_neg q1]
  by_cases q2 : xs i &&& nI 31 = nI 2
  · rw [if_pos q2]
    exact c_wipe hL hi hL2 hN
  rw [if_neg q2]
  by_cases q3 : xs i &&& nI 31 = nI 3
  · rw [if_pos q3]
    exact c_fault hL hi hL2 hN
  rw [if_neg q3]
  by_cases q4 : xs i &&& nI 31 = nI 4
  · rw [if_pos q4]
    exact c_diagram hL hi hL2 hN
  rw [if_neg q4]
  by_cases q5 : xs i &&& nI 31 = nI 5
  · rw [if_pos q5]
    exact c_word hL hi hL2 hN
  rw [if_neg q5]
  by_cases q6 : xs i &&& nI 31 = nI 6
  · rw [if_pos q6]
    exact c_of hL hi hL2 hN
  rw [if_neg q6]
  by_cases q7 : xs i &&& nI 31 = nI 7
  · rw [if_pos q7]
    exact c_joined hL hi hL2 hN
  rw [if_neg q7]
  by_cases q8 : xs i &&& nI 31 = nI 8
  · rw [if_pos q8]
    exact c_stack hL hi hL2 hN
  rw [if_neg q8]
  by_cases q9 : xs i &&& nI 31 = nI 9
  · rw [if_pos q9]
    exact c_way hL hi hL2 hN
  rw [if_neg q9]
  by_cases q10 : xs i &&& nI 31 = nI 10
  · rw [if_pos q10]
    exact c_prime hL hi hL2 hN
  rw [if_neg q10]
  by_cases q11 : xs i &&& nI 31 = nI 11
  · rw [if_pos q11]
    exact c_put hL hi hL2 hN
  rw [if_neg q11]
  by_cases q12 : xs i &&& nI 31 = nI 12
  · rw [if_pos q12]
    exact c_at hL hi hL2 hN
  rw [if_neg q12]
  by_cases q13 : xs i &&& nI 31 = nI 13
  · rw [if_pos q13]
    exact c_both hL hi hL2 hN
  rw [if_neg q13]
  by_cases q14 : xs i &&& nI 31 = nI 14
  · rw [if_pos q14]
    exact c_times hL hi hL2 hN
  rw [if_neg q14]
  by_cases q15 : xs i &&& nI 31 = nI 15
  · rw [if_pos q15]
    exact c_turn hL hi hL2 hN
  rw [if_neg q15]
  by_cases q16 : xs i &&& nI 31 = nI 16
  · rw [if_pos q16]
    exact c_trace hL hi hL2 hN
  rw [if_neg q16]
  by_cases q17 : xs i &&& nI 31 = nI 17
  · rw [if_pos q17]
    exact c_bracket hL hi hL2 hN
  rw [if_neg q17]
  by_cases q18 : xs i &&& nI 31 = nI 18
  · rw [if_pos q18]
    exact c_project hL hi hL2 hN
  rw [if_neg q18]
  by_cases q19 : xs i &&& nI 31 = nI 19
  · rw [if_pos q19]
    exact c_cell hL hi hL2 hN
  rw [if_neg q19]
  by_cases q20 : xs i &&& nI 31 = nI 20
  · rw [if_pos q20]
    exact c_form hL hi hL2 hN
  rw [if_neg q20]
  by_cases q21 : xs i &&& nI 31 = nI 21
  · rw [if_pos q21]
    exact c_image hL hi hL2 hN
  rw [if_neg q21]
  by_cases q22 : xs i &&& nI 31 = nI 22
  · rw [if_pos q22]
    exact c_restore hL hi hL2 hN
  rw [if_neg q22]
  by_cases q23 : xs i &&& nI 31 = nI 23
  · rw [if_pos q23]
    exact c_count hL hi hL2 hN
  rw [if_neg q23]
  exact hN2
theorem l_loop (h5 : 5 ≤ L) (hL2 : L ≤ 2560) (hX : ∀ c G, 5 * c ≤ L → LI c L xs G → X (some (.int (nI 1))) G) : ∀ (m c : Nat) (h : ex_Hp), 5 * c ≤ L → L < 5 * (c + m) + 5 → LI c L xs h → ex_W 161 18 [.ref 0, .ref 1, .ref 63, .int (nI (5 * c))] [] h X := by
  intro m
  induction m with
  | zero =>
    intro c h hc hm hL
    obtain ⟨⟨s1, s2⟩, o1, _⟩ := hL.ls
    rw [s161_18]
    simp only [s161_19, s161_20, s161_21, s161_22, s161_23, s1, ln_S, pk_sub h5]
    rw [if_pos ((nI_l2 (by omega) (by omega)).mpr (by omega)), s161_872, s161_873]
    exact ⟨Or.inr rfl, hX c h hc hL⟩
  | succ m ih =>
    intro c h hc hm hL
    obtain ⟨⟨s1, s2⟩, o1, _⟩ := hL.ls
    rw [s161_18]
    simp only [s161_19, s161_20, s161_21, s161_22, s161_23, s1, ln_S, pk_sub h5]
    by_cases hq : L - 5 < 5 * c
    · rw [if_pos ((nI_l2 (by omega) (by omega)).mpr (by omega)), s161_872, s161_873]
      exact ⟨Or.inr rfl, hX c h hc hL⟩
    · rw [if_neg (fun z => absurd ((nI_l2 (by omega) (by omega)).mp z) (by omega))]
      have hgo : ∀ G, LI (c + 1) L xs G → ex_W 161 866 [.ref 0, .ref 1, .ref 63, .int (nI (5 * c))] [] G X := fun G hG => by
        have := ih (c + 1) G (by omega) (by omega) hG
        rw [s161_866, s161_869, nI_add]
        exact this
      refine l_body hL (by omega) hL2 hgo (hgo h ?_)
      obtain ⟨A, N, F, v, p, lo, S, I, a1, a2, a3, a4, a5, a6⟩ := hL
      exact ⟨A, N, F, v, p, lo, S, I, a1, a2, a3, Nat.le_trans a4 (Nat.add_le_add_left (Nat.mul_le_mul_left 200 (Nat.le_succ c)) 86), Nat.le_trans a5 (Nat.add_le_add_left (Nat.mul_le_mul_left 7300 (Nat.le_succ c)) 30000), a6⟩
theorem l_small (hX : ∀ G, LI 0 L xs G → X (some (.int (nI 1))) G) (h5 : L < 5) (hL : LI 0 L xs h) : ex_W 161 18 [.ref 0, .ref 1, .ref 63, .int (nI 0)] [] h X := by
  obtain ⟨⟨s1, s2⟩, o1, _⟩ := hL.ls
  rw [s161_18]
  simp only [s161_19, s161_20, s161_21, s161_22, s161_23, s1, ln_S]
  rw [if_pos (by
    rcases (show L = 0 ∨ L = 1 ∨ L = 2 ∨ L = 3 ∨ L = 4 by omega) with e | e | e | e | e <;> subst e <;> decide), s161_872, s161_873]
  exact ⟨Or.inr rfl, hX h hL⟩
/-- class and reference are made -/
theorem l_start (hX : ∀ G, LI 0 L xs G → ex_W 161 18 [.ref 0, .ref 1, .ref 63, .int (nI 0)] [] G X) : ex_W 161 0 [.ref 0, .long 0, .long 0, .long 0] [] (ex_h0 L xs) X := by
  simp only [s161_0, s161_3, s161_4, cat_0, cat_r, true_and, Nat.zero_le, Nat.reduceAdd, Nat.reduceLeDiff, show (ex_h0 L xs).1 = 1 from rfl]
  refine x_init rfl (g_newe rfl) (fun H hC hs h0 => ?_)
  have hn := hC.1
  simp only [opt_n, s161_7, s161_8, s161_11, s161_12, cat_0, cat_r, true_and, Nat.zero_le, Nat.reduceAdd, Nat.reduceLeDiff, hn]
  refine r_init (M := 63) (by rw [new_1, hn]) (g_newe hn) (fun B K hR k1 k2 k3 b0 b4 b3 hT hS => ?_)
  simp only [opt_n, s161_15, s161_16, s161_17]
  have hq : ∀ q, q < 63 → ex_g (mdl 63 B K) q = ex_g H q := fun q hq => (mg_n (Or.inl hq)).trans ((k3 q hq).trans (g_nl (by omega)))
  have hs' : H.2.1 ≤ 6 + 9000 := by
    have e : (ex_new (ex_h0 L xs) (cO 7 (ex_dfl 7)) 6).2.1 = 6 := rfl
    rw [e] at hs
    exact hs
  have k2' : K.2.1 ≤ H.2.1 + 27 + 7000 := k2
  refine hX _ ⟨B, 0, fun _ => 0, 3, 97, 2, fun _ _ => 0, fun _ => none, hR, ⟨_, _, hC.cx k1 hq⟩, ⟨b0, b4, hT, hS, fun k hk => Or.inl ⟨rfl, by rw [b3]; rfl⟩⟩, ?_, ?_, ?_⟩
  · show K.1 ≤ 86 + 200 * 0
    rw [k1]
    decide
  · show K.2.1 ≤ 30000 + 7300 * 0
    omega
  · rw [hq 0 (by decide), h0]
    exact (g_nl (show 0 < (ex_h0 L xs).1 from Nat.zero_lt_one)).trans rfl
/-- the law's run in the pure machine: for every script of at most 2560 ints it ends with true, within its room -/
theorem l_all (hL2 : L ≤ 2560) : ∃ (n : Nat) (h' : ex_Hp), ex_run n 161 0 [.ref 0, .long 0, .long 0, .long 0] [] (ex_h0 L xs) = some (some (.int 1), h') ∧ h'.1 ≤ room_1.cells ∧ h'.2.1 ≤ room_1.slots := by
  have key : ex_W 161 0 [.ref 0, .long 0, .long 0, .long 0] [] (ex_h0 L xs) (fun r h' => r = some (.int 1) ∧ h'.1 ≤ room_1.cells ∧ h'.2.1 ≤ room_1.slots) := by
    have hX : ∀ c G, 5 * c ≤ L → LI c L xs G → ((some (Value.int (nI 1)) : Option Value) = some (.int 1) ∧ G.1 ≤ room_1.cells ∧ G.2.1 ≤ room_1.slots) := fun c G hc hG => by
      obtain ⟨_, _, g1, g2⟩ := hG.ls
      have hc5 : c ≤ 512 := by omega
      refine ⟨rfl, Nat.le_trans g1 (Nat.le_trans (Nat.add_le_add_left (Nat.mul_le_mul_left 200 hc5) 86) (by decide +kernel)), Nat.le_trans g2 (Nat.le_trans (Nat.add_le_add_left (Nat.mul_le_mul_left 7300 hc5) 30000) (by decide +kernel))⟩
    refine l_start (fun G hG => ?_)
    by_cases h5 : 5 ≤ L
    · exact l_loop h5 hL2 hX L 0 G (by omega) (by omega) hG
    · exact l_small (fun G hG => hX 0 G (by omega) hG) (by omega) hG
  obtain ⟨n, r, h', hr, rfl, e1, e2⟩ := key
  exact ⟨n, h', hr, e1, e2⟩
end C42
