/-! THE CLASS AS A WHOLE: its object at 1, pad 2 and 3, shapes 4, first Diagrams 5, state 42, images 51, algebra 52, table 56; the reference at 63 to 85; what is made later lies above -/
theorem eO_k : all5 (fun v => decide (eO v ≤ 150)) = true := by decide +kernel
theorem eO_le {v : Nat} (h1 : 1 ≤ v) (h2 : v ≤ 5) : eO v ≤ 150 := of_decide_eq_true (all5_of eO_k h1 h2)
theorem eO_3 : eO 3 = 28 := by decide +kernel
abbrev cSt : Type := Nat × Nat × Nat × (Nat → Nat → Nat)
def okSt (z : cSt) : Prop := (1 ≤ z.1 ∧ z.1 ≤ 5) ∧ (2 ≤ z.2.1 ∧ z.2.1 ≤ 101 ∧ prT z.2.1 = true) ∧ z.2.2.1 < z.2.1 ∧ okS z.1 z.2.1 z.2.2.2
/-- the cells below the reference, but shapes and images -/
def BS (N : Nat) (F : Nat → Int32) (a p lo : Nat) (S : Nat → Nat → Nat) (h : ex_Hp) : Prop := ex_g h 2 = some (oPd 3 N) ∧ ex_g h 3 = some (cI 24 F) ∧ STT 42 a p lo S h ∧ ex_g h 52 = some (oAl 52) ∧ (isI 53 h ∧ isI 54 h ∧ isI 55 h) ∧ (∃ d r n, ex_g h 56 = some (oTb 56 d r n)) ∧ ∃ T, TB 56 0 T h
/-- shapes -/
def SHP (ρ : Nat → Option Nat) (h : ex_Hp) : Prop := (∀ w a, 1 ≤ w → w ≤ 5 → ρ w = some a → DG w a h ∧ (a = 5 ∧ w = 3 ∨ 86 ≤ a) ∧ a + eO w + 9 ≤ h.1) ∧ ∀ w w' a a', 1 ≤ w → w ≤ 5 → 1 ≤ w' → w' ≤ 5 → ¬ w = w' → ρ w = some a → ρ w' = some a' → a + eO w + 9 ≤ a' ∨ a' + eO w' + 9 ≤ a
/-- one image -/
def IMG (ρ : Nat → Option Nat) (s : Nat) (z : cSt) (h : ex_Hp) : Prop := okSt z ∧ 86 ≤ s ∧ s + 9 ≤ h.1 ∧ (∃ a, ρ z.1 = some a ∧ STT s a z.2.1 z.2.2.1 z.2.2.2 h) ∧ ∀ w b, 1 ≤ w → w ≤ 5 → ρ w = some b → s + 9 ≤ b ∨ b + eO w + 9 ≤ s
def IMS (ρ ι : Nat → Option Nat) (I : Nat → Option cSt) (h : ex_Hp) : Prop := (∀ k, k < 2 → (I k = none ∧ ι k = none) ∨ ∃ z s, I k = some z ∧ ι k = some s ∧ IMG ρ s z h) ∧ ∀ k k' s s', k < 2 → k' < 2 → ¬ k = k' → ι k = some s → ι k' = some s' → s + 9 ≤ s' ∨ s' + 9 ≤ s
def WD (ρ ι : Nat → Option Nat) (I : Nat → Option cSt) (h : ex_Hp) : Prop := 86 ≤ h.1 ∧ ex_g h 1 = some (cO 7 [.ref 2, .ref 4, .ref 42, .ref 51, .ref 52, .ref 56]) ∧ ex_g h 4 = some (cR 3 6 ρ) ∧ ex_g h 51 = some (cR 4 2 ι) ∧ SHP ρ h ∧ IMS ρ ι I h
def CX (ρ ι : Nat → Option Nat) (N : Nat) (F : Nat → Int32) (v p lo : Nat) (S : Nat → Nat → Nat) (I : Nat → Option cSt) (h : ex_Hp) : Prop := N ≤ 24 ∧ okSt (v, p, lo, S) ∧ (∃ a, ρ v = some a ∧ BS N F a p lo S h) ∧ WD ρ ι I h
def CI (N : Nat) (F : Nat → Int32) (v p lo : Nat) (S : Nat → Nat → Nat) (I : Nat → Option cSt) (h : ex_Hp) : Prop := ∃ ρ ι, CX ρ ι N F v p lo S I h
/-- what a call leaves: the script, the reference; how much it may make -/
def chC (h H : ex_Hp) : Prop := (∀ q, q = 0 ∨ 63 ≤ q ∧ q < 86 → ex_g H q = ex_g h q) ∧ h.1 ≤ H.1 ∧ H.1 ≤ h.1 + 200 ∧ H.2.1 ≤ h.2.1 + 7300
section C27
variable {h H : ex_Hp} {X : Option Value → ex_Hp → Prop} {ρ ι : Nat → Option Nat} {N v p lo a : Nat} {F : Nat → Int32} {S : Nat → Nat → Nat} {I : Nat → Option cSt}
theorem chC.rfl' : chC h h := ⟨fun _ _ => rfl, Nat.le_refl _, by omega, by omega⟩
theorem chC.same (h1 : H.1 = h.1) (h2 : H.2.1 = h.2.1) (hq : ∀ q, q = 0 ∨ 63 ≤ q ∧ q < 86 → ex_g H q = ex_g h q) : chC h H := ⟨hq, by omega, by omega, by omega⟩
/-- the place of the shape in use -/
theorem WD.sh (hW : WD ρ ι I h) (h1 : 1 ≤ v) (h2 : v ≤ 5) (ha : ρ v = some a) : DG v a h ∧ (a = 5 ∧ v = 3 ∨ 86 ≤ a) ∧ a + eO v + 9 ≤ h.1 ∧ (a = 5 ∧ a + eO v + 9 = 42 ∨ 86 ≤ a) := by
  obtain ⟨_, _, _, _, q, _⟩ := hW
  obtain ⟨q1, q2, q3⟩ := q.1 v a h1 h2 ha
  refine ⟨q1, q2, q3, ?_⟩
  rcases q2 with ⟨e1, e2⟩ | e
  · subst e2
    have := eO_3
    omega
  · exact Or.inr e
theorem SHP.fr (hS : SHP ρ h) (hH : h.1 ≤ H.1) (h1 : 1 ≤ v) (h2 : v ≤ 5) (ha : ρ v = some a) (hD : DG v a H) (hq : ∀ q, (5 ≤ q ∧ q < 42 ∨ 86 ≤ q) → q < h.1 → ¬ (a ≤ q ∧ q < a + eO v + 9) → ex_g H q = ex_g h q) : SHP ρ H := by
  refine ⟨fun w b w1 w2 hb => ?_, hS.2⟩
  obtain ⟨q1, q2, q3⟩ := hS.1 w b w1 w2 hb
  refine ⟨?_, q2, by omega⟩
  by_cases e : w = v
  · subst e
    rw [ha] at hb
    cases hb
    exact hD
  · have hdj := hS.2 w v b a w1 w2 h1 h2 e hb ha
    have hlow : b = 5 ∧ b + eO w + 9 = 42 ∨ 86 ≤ b := by
      rcases q2 with ⟨e1, e2⟩ | e2
      · subst e2
        have := eO_3
        omega
      · exact Or.inr e2
    exact q1.fr w1 w2 (fun q z1 z2 => hq q (by omega) (by omega) (by omega))
theorem IMG.fr {s : Nat} {z : cSt} (hI : IMG ρ s z h) (hH : h.1 ≤ H.1) (hq : ∀ q, s ≤ q → q < s + 9 → ex_g H q = ex_g h q) : IMG ρ s z H := by
  obtain ⟨i1, i2, i3, ⟨b, i4, i5⟩, i6⟩ := hI
  exact ⟨i1, i2, by omega, ⟨b, i4, i5.fr hq⟩, i6⟩
/-- only cells below the reference and the shape in use have changed -/
theorem WD.fr (hW : WD ρ ι I h) (hH : H.1 = h.1) (h1 : 1 ≤ v) (h2 : v ≤ 5) (ha : ρ v = some a) (hD : DG v a H) (hq : ∀ q, (q = 1 ∨ 4 ≤ q ∧ q < 42 ∨ q = 51 ∨ 86 ≤ q) → ¬ (a ≤ q ∧ q < a + eO v + 9) → ex_g H q = ex_g h q) : WD ρ ι I H := by
  obtain ⟨_, hp, hl, hl2⟩ := hW.sh h1 h2 ha
  obtain ⟨w0, w1, w2, w3, w4, w5, w6⟩ := hW
  refine ⟨by omega, (hq 1 (by omega) (by omega)).trans w1, (hq 4 (by omega) (by omega)).trans w2, (hq 51 (by omega) (by omega)).trans w3, w4.fr (by omega) h1 h2 ha hD (fun q z1 z2 z3 => hq q (by omega) z3), fun k hk => ?_, w6⟩
  rcases w5 k hk with z | ⟨z, s, z1, z2, z3⟩
  · exact Or.inl z
  · have hs := z3.2.2.2.2 v a h1 h2 ha
    have hs2 := z3.2.1
    exact Or.inr ⟨z, s, z1, z2, z3.fr (by omega) (fun q y1 y2 => hq q (by omega) (by omega))⟩
/-- behind the reference's turn -/
theorem CX.ref (hC : CX ρ ι N F v p lo S I h) (hH : H.1 = h.1) (hq : ∀ q, q < 63 ∨ 86 ≤ q → ex_g H q = ex_g h q) : CX ρ ι N F v p lo S I H := by
  obtain ⟨c1, c2, ⟨a, c3, b1, b2, b3, b4, ⟨⟨e1, b5⟩, ⟨e2, b6⟩, ⟨e3, b7⟩⟩, ⟨d, r, n, b8⟩, ⟨T, b9⟩⟩, c4⟩ := hC
  obtain ⟨hD, hp, hl, hl2⟩ := c4.sh (v := v) c2.1.1 c2.1.2 c3
  refine ⟨c1, c2, ⟨a, c3, (hq _ (by omega)).trans b1, (hq _ (by omega)).trans b2, b3.fr (fun q z1 z2 => hq q (by omega)), (hq _ (by omega)).trans b4, ⟨⟨e1, (hq _ (by omega)).trans b5⟩, ⟨e2, (hq _ (by omega)).trans b6⟩, ⟨e3, (hq _ (by omega)).trans b7⟩⟩, ⟨d, r, n, (hq _ (by omega)).trans b8⟩, ⟨T, b9.fr (fun q z1 z2 => hq q (by omega))⟩⟩, ?_⟩
  exact c4.fr (v := v) hH c2.1.1 c2.1.2 c3 (hD.fr (v := v) c2.1.1 c2.1.2 (fun q z1 z2 => hq q (by omega))) (fun q z1 _ => hq q (by omega))
/-- the shape's rows and memo alone have changed -/
theorem CX.D (hC : CX ρ ι N F v p lo S I h) (ha : ρ v = some a) (hc : chD v a h H) (hK : DKw v a (.ref (a + 7 + tC v)) H) : CX ρ ι N F v p lo S I H ∧ chC h H := by
  obtain ⟨c1, c2, ⟨a', c3, b1, b2, b3, b4, ⟨⟨e1, b5⟩, ⟨e2, b6⟩, ⟨e3, b7⟩⟩, ⟨d, r, n, b8⟩, ⟨T, b9⟩⟩, c4⟩ := hC
  rw [ha] at c3
  cases c3
  obtain ⟨hD, hp, hl, hl2⟩ := c4.sh (v := v) c2.1.1 c2.1.2 ha
  have hq : ∀ q, q < a + eO v ∨ a + eO v + 4 ≤ q → ex_g H q = ex_g h q := hc.2.2
  have hC := (cLd (v := v) c2.1.1 c2.1.2).2.2
  have hD2 := hD.ch (v := v) c2.1.1 c2.1.2 hc hK
  refine ⟨⟨c1, c2, ⟨a, ha, (hq _ (by omega)).trans b1, (hq _ (by omega)).trans b2, b3.fr (fun q z1 z2 => hq q (by omega)), (hq _ (by omega)).trans b4, ⟨⟨e1, (hq _ (by omega)).trans b5⟩, ⟨e2, (hq _ (by omega)).trans b6⟩, ⟨e3, (hq _ (by omega)).trans b7⟩⟩, ⟨d, r, n, (hq _ (by omega)).trans b8⟩, ⟨T, b9.fr (fun q z1 z2 => hq q (by omega))⟩⟩, ?_⟩, chC.same hc.1 hc.2.1 (fun q z => hq q (by omega))⟩
  exact c4.fr (v := v) hc.1 c2.1.1 c2.1.2 ha hD2 (fun q z1 z2 => hq q (by omega))
end C27
