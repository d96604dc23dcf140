/-! THE CLASS: the table of a cell -/
/-- a Table's rows: cells at tb + 1, its five rows behind it, in any order -/
def TB (tb n : Nat) (T : Nat → Nat → Nat) (h : ex_Hp) : Prop := ∃ (ρ : Nat → Option Nat) (π : Nat → Nat), ex_g h (tb + 1) = some (cR 2 5 ρ) ∧ (∀ i, i < 5 → ρ i = some (tb + 2 + π i) ∧ π i < 5) ∧ (∀ i j, i < 5 → j < 5 → π i = π j → i = j) ∧ ∀ i, i < 5 → ∃ f, ex_g h (tb + 2 + π i) = some (cI 5 f) ∧ (i < n → ∀ k, k < n → f k = nI (T i k))
abbrev oTb (tb : Nat) (det rk n : Nat) : ex_AC := cO 5 [.int (nI det), .int (nI rk), .ref (tb + 1), .int (nI n)]
def chT (tb : Nat) (h H : ex_Hp) : Prop := H.1 = h.1 ∧ H.2.1 = h.2.1 ∧ ∀ q, q < tb ∨ tb + 7 ≤ q → ex_g H q = ex_g h q
section C21
variable {h H : ex_Hp} {X : Option Value → ex_Hp → Prop} {v a s p lo tb n nb lp : Nat} {T T2 : Nat → Nat → Nat}
theorem chT.rfl' : chT tb h h := ⟨rfl, rfl, fun _ _ => rfl⟩
theorem chT.trans {K : ex_Hp} (x : chT tb h H) (y : chT tb H K) : chT tb h K := ⟨y.1.trans x.1, y.2.1.trans x.2.1, fun q hq => (y.2.2 q hq).trans (x.2.2 q hq)⟩
theorem chT.set {q : Nat} {c : ex_AC} (x : chT tb h H) (hq : tb ≤ q ∧ q < tb + 7) : chT tb h (ex_set H q c) := ⟨x.1, x.2.1, fun z hz => by rw [g_ne (by omega)]; exact x.2.2 z hz⟩
theorem TB.fr (hT : TB tb n T h) (hq : ∀ q, tb + 1 ≤ q → q < tb + 7 → ex_g H q = ex_g h q) : TB tb n T H := by
  obtain ⟨ρ, π, a1, a2, a3, a4⟩ := hT
  refine ⟨ρ, π, ?_, a2, a3, fun i hi => ?_⟩
  · rw [hq _ (by omega) (by omega)]; exact a1
  · obtain ⟨f, b1, b2⟩ := a4 i hi
    have := (a2 i hi).2
    exact ⟨f, by rw [hq _ (by omega) (by omega)]; exact b1, b2⟩
theorem TB.ext (hT : TB tb n T h) (he : ∀ i, i < n → ∀ k, k < n → T2 i k = T i k) : TB tb n T2 h := by
  obtain ⟨ρ, π, a1, a2, a3, a4⟩ := hT
  refine ⟨ρ, π, a1, a2, a3, fun i hi => ?_⟩
  obtain ⟨f, b1, b2⟩ := a4 i hi
  exact ⟨f, b1, fun hin k hk => by rw [b2 hin k hk, he i hin k hk]⟩
end C21
