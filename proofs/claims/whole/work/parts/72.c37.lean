/-! THE REFERENCE IS MADE -/
theorem dfl8 : ex_dfl 8 = [.null, .null, .null, .null, .int 0, .null, .null, .int 0, .null, .null, .null, .null, .null, .null, .null, .null, .null, .null, .null, .null, .null, .null, .int 0, .null, .null, .int 0, .int 0] := by decide +kernel
def mSum : Nat → Nat
  | 0 => 0
  | n + 1 => mSum n + mLen n
/-- the first arrays are there -/
def MK (M j : Nat) (h K : ex_Hp) : Prop := K.1 = M + j ∧ K.2.1 = h.2.1 + mSum j ∧ (∀ i, 1 ≤ i → i < j → ex_g K (M + i) = some (mArr i (fun _ => 0))) ∧ ∀ q, q < M → ex_g K q = ex_g h q
def RF (M : Nat) (A : Nat → Nat → Int32) (h : ex_Hp) : Prop := ex_g h M = some (mObj M A) ∧ ∀ k, 1 ≤ k → k ≤ 22 → ex_g h (M + k) = some (mArr k (A k))
section C37
variable {h H K : ex_Hp} {X : Option Value → ex_Hp → Prop} {M : Nat} {A : Nat → Nat → Int32}
theorem mdl_eta (hR : RF M A h) : mdl M A h = h := by
  obtain ⟨n, k, f⟩ := h
  unfold mdl
  refine congrArg (Prod.mk _) (congrArg (Prod.mk _) (funext fun q => ?_))
  by_cases h1 : q = M
  · rw [if_pos h1, h1]
    exact hR.1.symm
  · rw [if_neg h1]
    by_cases h2 : M < q ∧ q ≤ M + 22
    · rw [if_pos h2]
      have := hR.2 (q - M) (by omega) (by omega)
      rw [show M + (q - M) = q by omega] at this
      exact this.symm
    · rw [if_neg h2]
theorem mdl_RF {g : ex_Hp} : RF M A (mdl M A g) := ⟨mg_0, fun k h1 h2 => mg_k h1 h2⟩
theorem RF.fr (hR : RF M A h) (hq : ∀ q, M ≤ q → q ≤ M + 22 → ex_g H q = ex_g h q) : RF M A H := ⟨(hq M (by omega) (by omega)).trans hR.1, fun k h1 h2 => (hq _ (by omega) (by omega)).trans (hR.2 k h1 h2)⟩
theorem MK.np {j : Nat} {c' : ex_AC} {f : Nat → Int32} (hK : MK M j h K) (h1 : 1 ≤ j) {n : Nat} (hn : n = mLen j) (hf : f = fun _ => 0) {c : ex_AC} (hc : c = mArr j f) : MK M (j + 1) h (ex_set (ex_new K c n) M c') := by
  obtain ⟨k1, k2, k3, k4⟩ := hK
  obtain ⟨p1, p2, p3, p4, p5⟩ := st_np (K := K) (a := M) (E' := M + j) (c := c) (n := n) (c' := c') k1 (by omega)
  refine ⟨p1, ?_, fun i i1 i2 => ?_, fun q hq => (p5 q (by omega) (by omega)).trans (k4 q hq)⟩
  · rw [p2, k2, mSum, hn]
    omega
  · by_cases e : i = j
    · subst e
      rw [p4, hc, hf]
    · rw [p5 _ (by omega) (by omega)]
      exact k3 i i1 (by omega)
theorem mk_1 (hK : MK M 1 h K) (ho : ex_g K M = some (cO 8 [.null, .null, .null, .null, .int 0, .null, .null, .int 0, .null, .null, .null, .null, .null, .null, .null, .null, .null, .null, .null, .null, .null, .null, .int 0, .null, .null, .int 0, .int 0])) (hX : ∀ G, MK M 2 h G → ex_g G M = some (cO 8 [.ref (M + 1), .null, .null, .null, .int 0, .null, .null, .int 0, .null, .null, .null, .null, .null, .null, .null, .null, .null, .null, .null, .null, .null, .null, .int 0, .null, .null, .int 0, .int 0]) → ex_W 91 13 [.ref M] [] G X) : ex_W 91 4 [.ref M] [] K X := by
  have hk := hK.1
  have j0 : M < M + 1 := by omega
  simp only [s91_4, s91_5, s91_8, s91_10, na_n (show 213 ≤ 100000 by decide), g_nl, hk, j0, ho, pf8_0]
  exact hX _ (hK.np (by decide) rfl rfl rfl) g_set
theorem mk_2 (hK : MK M 2 h K) (ho : ex_g K M = some (cO 8 [.ref (M + 1), .null, .null, .null, .int 0, .null, .null, .int 0, .null, .null, .null, .null, .null, .null, .null, .null, .null, .null, .null, .null, .null, .null, .int 0, .null, .null, .int 0, .int 0])) (hX : ∀ G, MK M 3 h G → ex_g G M = some (cO 8 [.ref (M + 1), .ref (M + 2), .null, .null, .int 0, .null, .null, .int 0, .null, .null, .null, .null, .null, .null, .null, .null, .null, .null, .null, .null, .null, .null, .int 0, .null, .null, .int 0, .int 0]) → ex_W 91 22 [.ref M] [] G X) : ex_W 91 13 [.ref M] [] K X := by
  have hk := hK.1
  have j0 : M < M + 2 := by omega
  simp only [s91_13, s91_14, s91_17, s91_19, na_n (show 426 ≤ 100000 by decide), g_nl, hk, j0, ho, pf8_1]
  exact hX _ (hK.np (by decide) rfl rfl rfl) g_set
theorem mk_3 (hK : MK M 3 h K) (ho : ex_g K M = some (cO 8 [.ref (M + 1), .ref (M + 2), .null, .null, .int 0, .null, .null, .int 0, .null, .null, .null, .null, .null, .null, .null, .null, .null, .null, .null, .null, .null, .null, .int 0, .null, .null, .int 0, .int 0])) (hX : ∀ G, MK M 4 h G → ex_g G M = some (cO 8 [.ref (M + 1), .ref (M + 2), .ref (M + 3), .null, .int 0, .null, .null, .int 0, .null, .null, .null, .null, .null, .null, .null, .null, .null, .null, .null, .null, .null, .null, .int 0, .null, .null, .int 0, .int 0]) → ex_W 91 29 [.ref M] [] G X) : ex_W 91 22 [.ref M] [] K X := by
  have hk := hK.1
  have j0 : M < M + 3 := by omega
  simp only [s91_22, s91_23, s91_24, s91_26, na_n (show 2 ≤ 100000 by decide), g_nl, hk, j0, ho, pf8_2]
  exact hX _ (hK.np (by decide) rfl rfl rfl) g_set
theorem mk_4 (hK : MK M 4 h K) (ho : ex_g K M = some (cO 8 [.ref (M + 1), .ref (M + 2), .ref (M + 3), .null, .int 0, .null, .null, .int 0, .null, .null, .null, .null, .null, .null, .null, .null, .null, .null, .null, .null, .null, .null, .int 0, .null, .null, .int 0, .int 0])) (hX : ∀ G, MK M 5 h G → ex_g G M = some (cO 8 [.ref (M + 1), .ref (M + 2), .ref (M + 3), .ref (M + 4), .int 0, .null, .null, .int 0, .null, .null, .null, .null, .null, .null, .null, .null, .null, .null, .null, .null, .null, .null, .int 0, .null, .null, .int 0, .int 0]) → ex_W 91 37 [.ref M] [] G X) : ex_W 91 29 [.ref M] [] K X := by
  have hk := hK.1
  have j0 : M < M + 4 := by omega
  simp only [s91_29, s91_30, s91_32, s91_34, na_n (show 24 ≤ 100000 by decide), g_nl, hk, j0, ho, pf8_3]
  exact hX _ (hK.np (by decide) rfl rfl rfl) g_set
theorem mk_5 (hK : MK M 5 h K) (ho : ex_g K M = some (cO 8 [.ref (M + 1), .ref (M + 2), .ref (M + 3), .ref (M + 4), .int 0, .null, .null, .int 0, .null, .null, .null, .null, .null, .null, .null, .null, .null, .null, .null, .null, .null, .null, .int 0, .null, .null, .int 0, .int 0])) (hX : ∀ G, MK M 6 h G → ex_g G M = some (cO 8 [.ref (M + 1), .ref (M + 2), .ref (M + 3), .ref (M + 4), .int 0, .ref (M + 5), .null, .int 0, .null, .null, .null, .null, .null, .null, .null, .null, .null, .null, .null, .null, .null, .null, .int 0, .null, .null, .int 0, .int 0]) → ex_W 91 46 [.ref M] [] G X) : ex_W 91 37 [.ref M] [] K X := by
  have hk := hK.1
  have j0 : M < M + 5 := by omega
  simp only [s91_37, s91_38, s91_41, s91_43, na_n (show 420 ≤ 100000 by decide), g_nl, hk, j0, ho, pf8_5]
  exact hX _ (hK.np (by decide) rfl rfl rfl) g_set
theorem mk_6 (hK : MK M 6 h K) (ho : ex_g K M = some (cO 8 [.ref (M + 1), .ref (M + 2), .ref (M + 3), .ref (M + 4), .int 0, .ref (M + 5), .null, .int 0, .null, .null, .null, .null, .null, .null, .null, .null, .null, .null, .null, .null, .null, .null, .int 0, .null, .null, .int 0, .int 0])) (hX : ∀ G, MK M 7 h G → ex_g G M = some (cO 8 [.ref (M + 1), .ref (M + 2), .ref (M + 3), .ref (M + 4), .int 0, .ref (M + 5), .ref (M + 6), .int 0, .null, .null, .null, .null, .null, .null, .null, .null, .null, .null, .null, .null, .null, .null, .int 0, .null, .null, .int 0, .int 0]) → ex_W 91 55 [.ref M] [] G X) : ex_W 91 46 [.ref M] [] K X := by
  have hk := hK.1
  have j0 : M < M + 6 := by omega
  simp only [s91_46, s91_47, s91_50, s91_52, na_n (show 1024 ≤ 100000 by decide), g_nl, hk, j0, ho, pf8_6]
  exact hX _ (hK.np (by decide) rfl rfl rfl) g_set
theorem mk_7 (hK : MK M 7 h K) (ho : ex_g K M = some (cO 8 [.ref (M + 1), .ref (M + 2), .ref (M + 3), .ref (M + 4), .int 0, .ref (M + 5), .ref (M + 6), .int 0, .null, .null, .null, .null, .null, .null, .null, .null, .null, .null, .null, .null, .null, .null, .int 0, .null, .null, .int 0, .int 0])) (hX : ∀ G, MK M 8 h G → ex_g G M = some (cO 8 [.ref (M + 1), .ref (M + 2), .ref (M + 3), .ref (M + 4), .int 0, .ref (M + 5), .ref (M + 6), .int 0, .ref (M + 7), .null, .null, .null, .null, .null, .null, .null, .null, .null, .null, .null, .null, .null, .int 0, .null, .null, .int 0, .int 0]) → ex_W 91 64 [.ref M] [] G X) : ex_W 91 55 [.ref M] [] K X := by
  have hk := hK.1
  have j0 : M < M + 7 := by omega
  simp only [s91_55, s91_56, s91_59, s91_61, na_n (show 1764 ≤ 100000 by decide), g_nl, hk, j0, ho, pf8_8]
  exact hX _ (hK.np (by decide) rfl rfl rfl) g_set
theorem mk_8 (hK : MK M 8 h K) (ho : ex_g K M = some (cO 8 [.ref (M + 1), .ref (M + 2), .ref (M + 3), .ref (M + 4), .int 0, .ref (M + 5), .ref (M + 6), .int 0, .ref (M + 7), .null, .null, .null, .null, .null, .null, .null, .null, .null, .null, .null, .null, .null, .int 0, .null, .null, .int 0, .int 0])) (hX : ∀ G, MK M 9 h G → ex_g G M = some (cO 8 [.ref (M + 1), .ref (M + 2), .ref (M + 3), .ref (M + 4), .int 0, .ref (M + 5), .ref (M + 6), .int 0, .ref (M + 7), .ref (M + 8), .null, .null, .null, .null, .null, .null, .null, .null, .null, .null, .null, .null, .int 0, .null, .null, .int 0, .int 0]) → ex_W 91 73 [.ref M] [] G X) : ex_W 91 64 [.ref M] [] K X := by
  have hk := hK.1
  have j0 : M < M + 8 := by omega
  simp only [s91_64, s91_65, s91_68, s91_70, na_n (show 1764 ≤ 100000 by decide), g_nl, hk, j0, ho, pf8_9]
  exact hX _ (hK.np (by decide) rfl rfl rfl) g_set
theorem mk_9 (hK : MK M 9 h K) (ho : ex_g K M = some (cO 8 [.ref (M + 1), .ref (M + 2), .ref (M + 3), .ref (M + 4), .int 0, .ref (M + 5), .ref (M + 6), .int 0, .ref (M + 7), .ref (M + 8), .null, .null, .null, .null, .null, .null, .null, .null, .null, .null, .null, .null, .int 0, .null, .null, .int 0, .int 0])) (hX : ∀ G, MK M 10 h G → ex_g G M = some (cO 8 [.ref (M + 1), .ref (M + 2), .ref (M + 3), .ref (M + 4), .int 0, .ref (M + 5), .ref (M + 6), .int 0, .ref (M + 7), .ref (M + 8), .ref (M + 9), .null, .null, .null, .null, .null, .null, .null, .null, .null, .null, .null, .int 0, .null, .null, .int 0, .int 0]) → ex_W 91 81 [.ref M] [] G X) : ex_W 91 73 [.ref M] [] K X := by
  have hk := hK.1
  have j0 : M < M + 9 := by omega
  simp only [s91_73, s91_74, s91_76, s91_78, na_n (show 10 ≤ 100000 by decide), g_nl, hk, j0, ho, pf8_10]
  exact hX _ (hK.np (by decide) rfl rfl rfl) g_set
theorem mk_10 (hK : MK M 10 h K) (ho : ex_g K M = some (cO 8 [.ref (M + 1), .ref (M + 2), .ref (M + 3), .ref (M + 4), .int 0, .ref (M + 5), .ref (M + 6), .int 0, .ref (M + 7), .ref (M + 8), .ref (M + 9), .null, .null, .null, .null, .null, .null, .null, .null, .null, .null, .null, .int 0, .null, .null, .int 0, .int 0])) (hX : ∀ G, MK M 11 h G → ex_g G M = some (cO 8 [.ref (M + 1), .ref (M + 2), .ref (M + 3), .ref (M + 4), .int 0, .ref (M + 5), .ref (M + 6), .int 0, .ref (M + 7), .ref (M + 8), .ref (M + 9), .ref (M + 10), .null, .null, .null, .null, .null, .null, .null, .null, .null, .null, .int 0, .null, .null, .int 0, .int 0]) → ex_W 91 89 [.ref M] [] G X) : ex_W 91 81 [.ref M] [] K X := by
  have hk := hK.1
  have j0 : M < M + 10 := by omega
  simp only [s91_81, s91_82, s91_84, s91_86, na_n (show 10 ≤ 100000 by decide), g_nl, hk, j0, ho, pf8_11]
  exact hX _ (hK.np (by decide) rfl rfl rfl) g_set
theorem mk_11 (hK : MK M 11 h K) (ho : ex_g K M = some (cO 8 [.ref (M + 1), .ref (M + 2), .ref (M + 3), .ref (M + 4), .int 0, .ref (M + 5), .ref (M + 6), .int 0, .ref (M + 7), .ref (M + 8), .ref (M + 9), .ref (M + 10), .null, .null, .null, .null, .null, .null, .null, .null, .null, .null, .int 0, .null, .null, .int 0, .int 0])) (hX : ∀ G, MK M 12 h G → ex_g G M = some (cO 8 [.ref (M + 1), .ref (M + 2), .ref (M + 3), .ref (M + 4), .int 0, .ref (M + 5), .ref (M + 6), .int 0, .ref (M + 7), .ref (M + 8), .ref (M + 9), .ref (M + 10), .ref (M + 11), .null, .null, .null, .null, .null, .null, .null, .null, .null, .int 0, .null, .null, .int 0, .int 0]) → ex_W 91 96 [.ref M] [] G X) : ex_W 91 89 [.ref M] [] K X := by
  have hk := hK.1
  have j0 : M < M + 11 := by omega
  simp only [s91_89, s91_90, s91_91, s91_93, na_n (show 5 ≤ 100000 by decide), g_nl, hk, j0, ho, pf8_12]
  exact hX _ (hK.np (by decide) rfl rfl rfl) g_set
theorem mk_12 (hK : MK M 12 h K) (ho : ex_g K M = some (cO 8 [.ref (M + 1), .ref (M + 2), .ref (M + 3), .ref (M + 4), .int 0, .ref (M + 5), .ref (M + 6), .int 0, .ref (M + 7), .ref (M + 8), .ref (M + 9), .ref (M + 10), .ref (M + 11), .null, .null, .null, .null, .null, .null, .null, .null, .null, .int 0, .null, .null, .int 0, .int 0])) (hX : ∀ G, MK M 13 h G → ex_g G M = some (cO 8 [.ref (M + 1), .ref (M + 2), .ref (M + 3), .ref (M + 4), .int 0, .ref (M + 5), .ref (M + 6), .int 0, .ref (M + 7), .ref (M + 8), .ref (M + 9), .ref (M + 10), .ref (M + 11), .ref (M + 12), .null, .null, .null, .null, .null, .null, .null, .null, .int 0, .null, .null, .int 0, .int 0]) → ex_W 91 104 [.ref M] [] G X) : ex_W 91 96 [.ref M] [] K X := by
  have hk := hK.1
  have j0 : M < M + 12 := by omega
  simp only [s91_96, s91_97, s91_99, s91_101, na_n (show 42 ≤ 100000 by decide), g_nl, hk, j0, ho, pf8_13]
  exact hX _ (hK.np (by decide) rfl rfl rfl) g_set
theorem mk_13 (hK : MK M 13 h K) (ho : ex_g K M = some (cO 8 [.ref (M + 1), .ref (M + 2), .ref (M + 3), .ref (M + 4), .int 0, .ref (M + 5), .ref (M + 6), .int 0, .ref (M + 7), .ref (M + 8), .ref (M + 9), .ref (M + 10), .ref (M + 11), .ref (M + 12), .null, .null, .null, .null, .null, .null, .null, .null, .int 0, .null, .null, .int 0, .int 0])) (hX : ∀ G, MK M 14 h G → ex_g G M = some (cO 8 [.ref (M + 1), .ref (M + 2), .ref (M + 3), .ref (M + 4), .int 0, .ref (M + 5), .ref (M + 6), .int 0, .ref (M + 7), .ref (M + 8), .ref (M + 9), .ref (M + 10), .ref (M + 11), .ref (M + 12), .ref (M + 13), .null, .null, .null, .null, .null, .null, .null, .int 0, .null, .null, .int 0, .int 0]) → ex_W 91 112 [.ref M] [] G X) : ex_W 91 104 [.ref M] [] K X := by
  have hk := hK.1
  have j0 : M < M + 13 := by omega
  simp only [s91_104, s91_105, s91_107, s91_109, na_n (show 42 ≤ 100000 by decide), g_nl, hk, j0, ho, pf8_14]
  exact hX _ (hK.np (by decide) rfl rfl rfl) g_set
theorem mk_14 (hK : MK M 14 h K) (ho : ex_g K M = some (cO 8 [.ref (M + 1), .ref (M + 2), .ref (M + 3), .ref (M + 4), .int 0, .ref (M + 5), .ref (M + 6), .int 0, .ref (M + 7), .ref (M + 8), .ref (M + 9), .ref (M + 10), .ref (M + 11), .ref (M + 12), .ref (M + 13), .null, .null, .null, .null, .null, .null, .null, .int 0, .null, .null, .int 0, .int 0])) (hX : ∀ G, MK M 15 h G → ex_g G M = some (cO 8 [.ref (M + 1), .ref (M + 2), .ref (M + 3), .ref (M + 4), .int 0, .ref (M + 5), .ref (M + 6), .int 0, .ref (M + 7), .ref (M + 8), .ref (M + 9), .ref (M + 10), .ref (M + 11), .ref (M + 12), .ref (M + 13), .ref (M + 14), .null, .null, .null, .null, .null, .null, .int 0, .null, .null, .int 0, .int 0]) → ex_W 91 120 [.ref M] [] G X) : ex_W 91 112 [.ref M] [] K X := by
  have hk := hK.1
  have j0 : M < M + 14 := by omega
  simp only [s91_112, s91_113, s91_115, s91_117, na_n (show 42 ≤ 100000 by decide), g_nl, hk, j0, ho, pf8_15]
  exact hX _ (hK.np (by decide) rfl rfl rfl) g_set
theorem mk_15 (hK : MK M 15 h K) (ho : ex_g K M = some (cO 8 [.ref (M + 1), .ref (M + 2), .ref (M + 3), .ref (M + 4), .int 0, .ref (M + 5), .ref (M + 6), .int 0, .ref (M + 7), .ref (M + 8), .ref (M + 9), .ref (M + 10), .ref (M + 11), .ref (M + 12), .ref (M + 13), .ref (M + 14), .null, .null, .null, .null, .null, .null, .int 0, .null, .null, .int 0, .int 0])) (hX : ∀ G, MK M 16 h G → ex_g G M = some (cO 8 [.ref (M + 1), .ref (M + 2), .ref (M + 3), .ref (M + 4), .int 0, .ref (M + 5), .ref (M + 6), .int 0, .ref (M + 7), .ref (M + 8), .ref (M + 9), .ref (M + 10), .ref (M + 11), .ref (M + 12), .ref (M + 13), .ref (M + 14), .ref (M + 15), .null, .null, .null, .null, .null, .int 0, .null, .null, .int 0, .int 0]) → ex_W 91 128 [.ref M] [] G X) : ex_W 91 120 [.ref M] [] K X := by
  have hk := hK.1
  have j0 : M < M + 15 := by omega
  simp only [s91_120, s91_121, s91_123, s91_125, na_n (show 42 ≤ 100000 by decide), g_nl, hk, j0, ho, pf8_16]
  exact hX _ (hK.np (by decide) rfl rfl rfl) g_set
theorem mk_16 (hK : MK M 16 h K) (ho : ex_g K M = some (cO 8 [.ref (M + 1), .ref (M + 2), .ref (M + 3), .ref (M + 4), .int 0, .ref (M + 5), .ref (M + 6), .int 0, .ref (M + 7), .ref (M + 8), .ref (M + 9), .ref (M + 10), .ref (M + 11), .ref (M + 12), .ref (M + 13), .ref (M + 14), .ref (M + 15), .null, .null, .null, .null, .null, .int 0, .null, .null, .int 0, .int 0])) (hX : ∀ G, MK M 17 h G → ex_g G M = some (cO 8 [.ref (M + 1), .ref (M + 2), .ref (M + 3), .ref (M + 4), .int 0, .ref (M + 5), .ref (M + 6), .int 0, .ref (M + 7), .ref (M + 8), .ref (M + 9), .ref (M + 10), .ref (M + 11), .ref (M + 12), .ref (M + 13), .ref (M + 14), .ref (M + 15), .ref (M + 16), .null, .null, .null, .null, .int 0, .null, .null, .int 0, .int 0]) → ex_W 91 136 [.ref M] [] G X) : ex_W 91 128 [.ref M] [] K X := by
  have hk := hK.1
  have j0 : M < M + 16 := by omega
  simp only [s91_128, s91_129, s91_131, s91_133, na_n (show 42 ≤ 100000 by decide), g_nl, hk, j0, ho, pf8_17]
  exact hX _ (hK.np (by decide) rfl rfl rfl) g_set
theorem mk_17 (hK : MK M 17 h K) (ho : ex_g K M = some (cO 8 [.ref (M + 1), .ref (M + 2), .ref (M + 3), .ref (M + 4), .int 0, .ref (M + 5), .ref (M + 6), .int 0, .ref (M + 7), .ref (M + 8), .ref (M + 9), .ref (M + 10), .ref (M + 11), .ref (M + 12), .ref (M + 13), .ref (M + 14), .ref (M + 15), .ref (M + 16), .null, .null, .null, .null, .int 0, .null, .null, .int 0, .int 0])) (hX : ∀ G, MK M 18 h G → ex_g G M = some (cO 8 [.ref (M + 1), .ref (M + 2), .ref (M + 3), .ref (M + 4), .int 0, .ref (M + 5), .ref (M + 6), .int 0, .ref (M + 7), .ref (M + 8), .ref (M + 9), .ref (M + 10), .ref (M + 11), .ref (M + 12), .ref (M + 13), .ref (M + 14), .ref (M + 15), .ref (M + 16), .ref (M + 17), .null, .null, .null, .int 0, .null, .null, .int 0, .int 0]) → ex_W 91 144 [.ref M] [] G X) : ex_W 91 136 [.ref M] [] K X := by
  have hk := hK.1
  have j0 : M < M + 17 := by omega
  simp only [s91_136, s91_137, s91_139, s91_141, na_n (show 42 ≤ 100000 by decide), g_nl, hk, j0, ho, pf8_18]
  exact hX _ (hK.np (by decide) rfl rfl rfl) g_set
theorem mk_18 (hK : MK M 18 h K) (ho : ex_g K M = some (cO 8 [.ref (M + 1), .ref (M + 2), .ref (M + 3), .ref (M + 4), .int 0, .ref (M + 5), .ref (M + 6), .int 0, .ref (M + 7), .ref (M + 8), .ref (M + 9), .ref (M + 10), .ref (M + 11), .ref (M + 12), .ref (M + 13), .ref (M + 14), .ref (M + 15), .ref (M + 16), .ref (M + 17), .null, .null, .null, .int 0, .null, .null, .int 0, .int 0])) (hX : ∀ G, MK M 19 h G → ex_g G M = some (cO 8 [.ref (M + 1), .ref (M + 2), .ref (M + 3), .ref (M + 4), .int 0, .ref (M + 5), .ref (M + 6), .int 0, .ref (M + 7), .ref (M + 8), .ref (M + 9), .ref (M + 10), .ref (M + 11), .ref (M + 12), .ref (M + 13), .ref (M + 14), .ref (M + 15), .ref (M + 16), .ref (M + 17), .ref (M + 18), .null, .null, .int 0, .null, .null, .int 0, .int 0]) → ex_W 91 152 [.ref M] [] G X) : ex_W 91 144 [.ref M] [] K X := by
  have hk := hK.1
  have j0 : M < M + 18 := by omega
  simp only [s91_144, s91_145, s91_147, s91_149, na_n (show 42 ≤ 100000 by decide), g_nl, hk, j0, ho, pf8_19]
  exact hX _ (hK.np (by decide) rfl rfl rfl) g_set
theorem mk_19 (hK : MK M 19 h K) (ho : ex_g K M = some (cO 8 [.ref (M + 1), .ref (M + 2), .ref (M + 3), .ref (M + 4), .int 0, .ref (M + 5), .ref (M + 6), .int 0, .ref (M + 7), .ref (M + 8), .ref (M + 9), .ref (M + 10), .ref (M + 11), .ref (M + 12), .ref (M + 13), .ref (M + 14), .ref (M + 15), .ref (M + 16), .ref (M + 17), .ref (M + 18), .null, .null, .int 0, .null, .null, .int 0, .int 0])) (hX : ∀ G, MK M 20 h G → ex_g G M = some (cO 8 [.ref (M + 1), .ref (M + 2), .ref (M + 3), .ref (M + 4), .int 0, .ref (M + 5), .ref (M + 6), .int 0, .ref (M + 7), .ref (M + 8), .ref (M + 9), .ref (M + 10), .ref (M + 11), .ref (M + 12), .ref (M + 13), .ref (M + 14), .ref (M + 15), .ref (M + 16), .ref (M + 17), .ref (M + 18), .ref (M + 19), .null, .int 0, .null, .null, .int 0, .int 0]) → ex_W 91 160 [.ref M] [] G X) : ex_W 91 152 [.ref M] [] K X := by
  have hk := hK.1
  have j0 : M < M + 19 := by omega
  simp only [s91_152, s91_153, s91_155, s91_157, na_n (show 42 ≤ 100000 by decide), g_nl, hk, j0, ho, pf8_20]
  exact hX _ (hK.np (by decide) rfl rfl rfl) g_set
theorem mk_20 (hK : MK M 20 h K) (ho : ex_g K M = some (cO 8 [.ref (M + 1), .ref (M + 2), .ref (M + 3), .ref (M + 4), .int 0, .ref (M + 5), .ref (M + 6), .int 0, .ref (M + 7), .ref (M + 8), .ref (M + 9), .ref (M + 10), .ref (M + 11), .ref (M + 12), .ref (M + 13), .ref (M + 14), .ref (M + 15), .ref (M + 16), .ref (M + 17), .ref (M + 18), .ref (M + 19), .null, .int 0, .null, .null, .int 0, .int 0])) (hX : ∀ G, MK M 21 h G → ex_g G M = some (cO 8 [.ref (M + 1), .ref (M + 2), .ref (M + 3), .ref (M + 4), .int 0, .ref (M + 5), .ref (M + 6), .int 0, .ref (M + 7), .ref (M + 8), .ref (M + 9), .ref (M + 10), .ref (M + 11), .ref (M + 12), .ref (M + 13), .ref (M + 14), .ref (M + 15), .ref (M + 16), .ref (M + 17), .ref (M + 18), .ref (M + 19), .ref (M + 20), .int 0, .null, .null, .int 0, .int 0]) → ex_W 91 168 [.ref M] [] G X) : ex_W 91 160 [.ref M] [] K X := by
  have hk := hK.1
  have j0 : M < M + 20 := by omega
  simp only [s91_160, s91_161, s91_163, s91_165, na_n (show 60 ≤ 100000 by decide), g_nl, hk, j0, ho, pf8_21]
  exact hX _ (hK.np (by decide) rfl rfl rfl) g_set
theorem mk_21 (hK : MK M 21 h K) (ho : ex_g K M = some (cO 8 [.ref (M + 1), .ref (M + 2), .ref (M + 3), .ref (M + 4), .int 0, .ref (M + 5), .ref (M + 6), .int 0, .ref (M + 7), .ref (M + 8), .ref (M + 9), .ref (M + 10), .ref (M + 11), .ref (M + 12), .ref (M + 13), .ref (M + 14), .ref (M + 15), .ref (M + 16), .ref (M + 17), .ref (M + 18), .ref (M + 19), .ref (M + 20), .int 0, .null, .null, .int 0, .int 0])) (hX : ∀ G, MK M 22 h G → ex_g G M = some (cO 8 [.ref (M + 1), .ref (M + 2), .ref (M + 3), .ref (M + 4), .int 0, .ref (M + 5), .ref (M + 6), .int 0, .ref (M + 7), .ref (M + 8), .ref (M + 9), .ref (M + 10), .ref (M + 11), .ref (M + 12), .ref (M + 13), .ref (M + 14), .ref (M + 15), .ref (M + 16), .ref (M + 17), .ref (M + 18), .ref (M + 19), .ref (M + 20), .int 0, .ref (M + 21), .null, .int 0, .int 0]) → ex_W 91 175 [.ref M] [] G X) : ex_W 91 168 [.ref M] [] K X := by
  have hk := hK.1
  have j0 : M < M + 21 := by omega
  simp only [s91_168, s91_169, s91_170, s91_172, na_n (show 5 ≤ 100000 by decide), g_nl, hk, j0, ho, pf8_23]
  exact hX _ (hK.np (by decide) rfl rfl rfl) g_set
theorem mk_22 (hK : MK M 22 h K) (ho : ex_g K M = some (cO 8 [.ref (M + 1), .ref (M + 2), .ref (M + 3), .ref (M + 4), .int 0, .ref (M + 5), .ref (M + 6), .int 0, .ref (M + 7), .ref (M + 8), .ref (M + 9), .ref (M + 10), .ref (M + 11), .ref (M + 12), .ref (M + 13), .ref (M + 14), .ref (M + 15), .ref (M + 16), .ref (M + 17), .ref (M + 18), .ref (M + 19), .ref (M + 20), .int 0, .ref (M + 21), .null, .int 0, .int 0])) (hX : ∀ G, MK M 23 h G → ex_g G M = some (cO 8 [.ref (M + 1), .ref (M + 2), .ref (M + 3), .ref (M + 4), .int 0, .ref (M + 5), .ref (M + 6), .int 0, .ref (M + 7), .ref (M + 8), .ref (M + 9), .ref (M + 10), .ref (M + 11), .ref (M + 12), .ref (M + 13), .ref (M + 14), .ref (M + 15), .ref (M + 16), .ref (M + 17), .ref (M + 18), .ref (M + 19), .ref (M + 20), .int 0, .ref (M + 21), .ref (M + 22), .int 0, .int 0]) → ex_W 91 184 [.ref M] [] G X) : ex_W 91 175 [.ref M] [] K X := by
  have hk := hK.1
  have j0 : M < M + 22 := by omega
  simp only [s91_175, s91_176, s91_179, s91_181, na_n (show 144 ≤ 100000 by decide), g_nl, hk, j0, ho, pf8_24]
  exact hX _ (hK.np (by decide) rfl rfl rfl) g_set
/-- the constructor: the reference of three strands -/
theorem r_init (hn : h.1 = M + 1) (g1 : ex_g h M = some (cO 8 (ex_dfl 8))) (hX : ∀ B K, RF M B (mdl M B K) → K.1 = M + 23 → K.2.1 ≤ h.2.1 + 7000 → (∀ q, q < M → ex_g K q = ex_g h q) → B 0 0 = nI 0 → B 4 = (fun _ => 0) → B 3 = (fun _ => 0) → mTab 3 B → mSt 3 97 2 (fun _ _ => 0) (B 1) → X none (mdl M B K)) : ex_W 91 0 [.ref M] [] h X := by
  rw [dfl8] at g1
  simp only [s91_0, s91_1, is_O, opt_s, opt_n, cat_0, cat_i, cat_r, true_and, Nat.zero_le, Nat.reduceAdd, Nat.reduceLeDiff, al_I, as_I, rl_R, ln_I, ln_R, nI_add, pk_mul, g_set, set_set, not_false_eq_true, gf0_0, gf0_1, gf0_2, gf1_0, gf1_1, gf1_2, gf1_3, gf1_4, gf1_5, gf1_6, gf1_7, gf1_8, gf1_9, gf1_10, gf1_11, gf2_0, gf2_1, gf2_2, gf3_0, gf3_1, gf4_0, gf4_1, gf4_2, gf5_0, gf5_1, gf5_2, gf5_3, gf6_0, gf6_1, gf6_2, gf6_3, gf6_4, gf6_5, gf6_6, gf7_0, gf7_1, gf7_2, gf7_3, gf7_4, gf7_5, pf0_0, pf0_1, pf0_2, pf1_0, pf1_1, pf1_2, pf1_3, pf1_4, pf1_5, pf1_6, pf1_7, pf1_8, pf1_9, pf1_10, pf1_11, pf2_0, pf2_1, pf2_2, pf3_0, pf3_1, pf4_0, pf4_1, pf4_2, pf5_0, pf5_1, pf5_2, pf5_3, pf6_0, pf6_1, pf6_2, pf6_3, pf6_4, pf6_5, pf6_6, pf7_0, pf7_1, pf7_2, pf7_3, pf7_4, pf7_5]
  refine mk_1 (h := h) ⟨hn, rfl, fun i i1 i2 => by omega, fun _ _ => rfl⟩ g1 (fun K1 a1 b1 => ?_)
  refine mk_2 a1 b1 (fun K2 a2 b2 => ?_)
  refine mk_3 a2 b2 (fun K3 a3 b3 => ?_)
  refine mk_4 a3 b3 (fun K4 a4 b4 => ?_)
  refine mk_5 a4 b4 (fun K5 a5 b5 => ?_)
  refine mk_6 a5 b5 (fun K6 a6 b6 => ?_)
  refine mk_7 a6 b6 (fun K7 a7 b7 => ?_)
  refine mk_8 a7 b7 (fun K8 a8 b8 => ?_)
  refine mk_9 a8 b8 (fun K9 a9 b9 => ?_)
  refine mk_10 a9 b9 (fun K10 a10 b10 => ?_)
  refine mk_11 a10 b10 (fun K11 a11 b11 => ?_)
  refine mk_12 a11 b11 (fun K12 a12 b12 => ?_)
  refine mk_13 a12 b12 (fun K13 a13 b13 => ?_)
  refine mk_14 a13 b13 (fun K14 a14 b14 => ?_)
  refine mk_15 a14 b14 (fun K15 a15 b15 => ?_)
  refine mk_16 a15 b15 (fun K16 a16 b16 => ?_)
  refine mk_17 a16 b16 (fun K17 a17 b17 => ?_)
  refine mk_18 a17 b17 (fun K18 a18 b18 => ?_)
  refine mk_19 a18 b18 (fun K19 a19 b19 => ?_)
  refine mk_20 a19 b19 (fun K20 a20 b20 => ?_)
  refine mk_21 a20 b20 (fun K21 a21 b21 => ?_)
  refine mk_22 a21 b21 (fun K22 a22 b22 => ?_)
  have hR : RF M (fun _ _ => 0) K22 := ⟨b22, fun k k1 k2 => a22.2.2.1 k k1 (by omega)⟩
  have e1 := a22.1
  have e2 := a22.2.1
  have e4 := a22.2.2.2
  have e5 : mSum 23 ≤ 7000 := by decide +kernel
  rw [← mdl_eta hR]
  simp only [s91_0, s91_1, s91_4, s91_5, s91_8, s91_10, s91_13, s91_14, s91_17, s91_19, s91_22, s91_23, s91_24, s91_26, s91_29, s91_30, s91_32, s91_34, s91_37, s91_38, s91_41, s91_43, s91_46, s91_47, s91_50, s91_52, s91_55, s91_56, s91_59, s91_61, s91_64, s91_65, s91_68, s91_70, s91_73, s91_74, s91_76, s91_78, s91_81, s91_82, s91_84, s91_86, s91_89, s91_90, s91_91, s91_93, s91_96, s91_97, s91_99, s91_101, s91_104, s91_105, s91_107, s91_109, s91_112, s91_113, s91_115, s91_117, s91_120, s91_121, s91_123, s91_125, s91_128, s91_129, s91_131, s91_133, s91_136, s91_137, s91_139, s91_141, s91_144, s91_145, s91_147, s91_149, s91_152, s91_153, s91_155, s91_157, s91_160, s91_161, s91_163, s91_165, s91_168, s91_169, s91_170, s91_172, s91_175, s91_176, s91_179, s91_181, s91_184, s91_185, s91_188, s91_189, s91_190, s91_191, s91_192, s91_195, s91_196, s91_198, s91_199, s91_200, s91_203, s91_204, s91_205, s91_206, s91_207, s91_210, mis, mg1, mg2, mg3, mg4, mg5, mg6, mg7, mg8, mg9, mg10, mg11, mg12, mg13, mg14, mg15, mg16, mg17, mg18, mg19, mg20, mg21, mg22, ms1, ms2, ms3, ms4, ms5, ms6, ms7, ms8, ms9, ms10, ms11, ms12, ms13, ms14, ms15, ms16, ms17, ms18, ms19, ms20, ms21, ms22, mf0, mf1, mf2, mf3, mf4, mf5, mf6, mf7, mf8, mf9, mf10, mf11, mf12, mf13, mf14, mf15, mf16, mf17, mf18, mf19, mf20, mf21, mf22, mf23, mf24, mf25, mf26, mp4, mp7, mp22, mp25, mp26, mq_0, al_I, as_I, zl_Z, zs_0, zs_1, Nat.reduceAdd, Nat.reduceLeDiff, Nat.zero_le, cat_0, cat_i, cat_r, opt_n, opt_s, true_and, nI_add, pk_mul, ua_ua, ua_s, ua_n, not_false_eq_true, Nat.reduceEqDiff, xi_n (show 0 < 213 by decide) (show 213 < 2147483648 by decide), xi_n (show 1 < 213 by decide) (show 213 < 2147483648 by decide), xi_n (show 2 < 213 by decide) (show 213 < 2147483648 by decide)]
  refine r_layDiagrams (v := 3) (by decide) (by decide) ?_ (fun B hB hB0 hT => ?_)
  · rw [ua_s, pk_un (by decide), pk_un (by decide), pk_us]
  · simp only [s91_0, s91_1, s91_4, s91_5, s91_8, s91_10, s91_13, s91_14, s91_17, s91_19, s91_22, s91_23, s91_24, s91_26, s91_29, s91_30, s91_32, s91_34, s91_37, s91_38, s91_41, s91_43, s91_46, s91_47, s91_50, s91_52, s91_55, s91_56, s91_59, s91_61, s91_64, s91_65, s91_68, s91_70, s91_73, s91_74, s91_76, s91_78, s91_81, s91_82, s91_84, s91_86, s91_89, s91_90, s91_91, s91_93, s91_96, s91_97, s91_99, s91_101, s91_104, s91_105, s91_107, s91_109, s91_112, s91_113, s91_115, s91_117, s91_120, s91_121, s91_123, s91_125, s91_128, s91_129, s91_131, s91_133, s91_136, s91_137, s91_139, s91_141, s91_144, s91_145, s91_147, s91_149, s91_152, s91_153, s91_155, s91_157, s91_160, s91_161, s91_163, s91_165, s91_168, s91_169, s91_170, s91_172, s91_175, s91_176, s91_179, s91_181, s91_184, s91_185, s91_188, s91_189, s91_190, s91_191, s91_192, s91_195, s91_196, s91_198, s91_199, s91_200, s91_203, s91_204, s91_205, s91_206, s91_207, s91_210, mis, mg1, mg2, mg3, mg4, mg5, mg6, mg7, mg8, mg9, mg10, mg11, mg12, mg13, mg14, mg15, mg16, mg17, mg18, mg19, mg20, mg21, mg22, ms1, ms2, ms3, ms4, ms5, ms6, ms7, ms8, ms9, ms10, ms11, ms12, ms13, ms14, ms15, ms16, ms17, ms18, ms19, ms20, ms21, ms22, mf0, mf1, mf2, mf3, mf4, mf5, mf6, mf7, mf8, mf9, mf10, mf11, mf12, mf13, mf14, mf15, mf16, mf17, mf18, mf19, mf20, mf21, mf22, mf23, mf24, mf25, mf26, mp4, mp7, mp22, mp25, mp26, mq_0, al_I, as_I, zl_Z, zs_0, zs_1, Nat.reduceAdd, Nat.reduceLeDiff, Nat.zero_le, cat_0, cat_i, cat_r, opt_n, opt_s, true_and, nI_add, pk_mul, ua_ua, ua_s, ua_n, not_false_eq_true, Nat.reduceEqDiff]
    refine hX B K22 mdl_RF e1 (by omega) e4 ?_ ?_ ?_ hT ?_
    · rw [hB0 0 (by decide), ua_n (by decide)]
      rfl
    · rw [hB 4 (by decide) (by decide) (by decide) (by decide) (by decide) (by decide) (by decide) (by decide), ua_n (by decide)]
    · rw [hB 3 (by decide) (by decide) (by decide) (by decide) (by decide) (by decide) (by decide) (by decide), ua_n (by decide)]
    · rw [hB 1 (by decide) (by decide) (by decide) (by decide) (by decide) (by decide) (by decide) (by decide), ua_s]
      refine ⟨?_, ?_, ?_, fun s hs d hd => ?_⟩
      · rw [pk_un (by decide), pk_un (by decide), pk_us]
      · rw [pk_un (by decide), pk_us]
      · rw [pk_us]
      · rw [pk_un (by omega), pk_un (by omega), pk_un (by omega)]
        rfl
end C37
