/-! THE CLASS: a table's rows read and written -/
section C22
variable {h H : ex_Hp} {X : Option Value → ex_Hp → Prop} {v a s p lo tb n nb lp det rk : Nat} {T T2 : Nat → Nat → Nat}
/-- one row of it, with what is needed to write into it -/
theorem TB.row {i : Nat} (hn : n ≤ 5) (hT : TB tb n T h) (hi : i < n) : ∃ (ρ : Nat → Option Nat) (w : Nat) (f : Nat → Int32), ex_g h (tb + 1) = some (cR 2 5 ρ) ∧ ρ i = some w ∧ tb + 2 ≤ w ∧ w < tb + 7 ∧ ex_g h w = some (cI 5 f) ∧ (∀ k, k < n → f k = nI (T i k)) ∧ ∀ k x, k < n → TB tb n (fun b c => if b = i ∧ c = k then x else T b c) (ex_set h w (cI 5 (upd f k (nI x)))) := by
  obtain ⟨ρ, π, a1, a2, a3, a4⟩ := hT
  obtain ⟨f, b1, b2⟩ := a4 i (by omega)
  obtain ⟨c1, c2⟩ := a2 i (by omega)
  refine ⟨ρ, tb + 2 + π i, f, a1, c1, by omega, by omega, b1, b2 hi, fun k x hk => ⟨ρ, π, ?_, a2, a3, fun j hj => ?_⟩⟩
  · rw [g_ne (by omega)]; exact a1
  · by_cases hc : j = i
    · subst hc
      refine ⟨_, g_set, fun _ q hq => ?_⟩
      by_cases hq2 : q = k
      · rw [hq2, pk_us]
        exact (congrArg nI (if_pos ⟨rfl, rfl⟩)).symm
      · rw [pk_un hq2, b2 hi q hq]
        exact (congrArg nI (if_neg (fun z => hq2 z.2))).symm
    · obtain ⟨g, d1, d2⟩ := a4 j hj
      have hne : ¬ tb + 2 + π j = tb + 2 + π i := fun z => hc (a3 j i hj (by omega) (by omega))
      refine ⟨g, (g_ne hne).trans d1, fun hjn q hq => ?_⟩
      rw [d2 hjn q hq]
      exact (congrArg nI (if_neg (fun z => hc z.1))).symm
theorem nI_sur (x : Int32) : nI x.toBitVec.toNat = x := by
  apply Int32.toBitVec_inj.mp
  show BitVec.ofNat 32 x.toBitVec.toNat = x.toBitVec
  rw [BitVec.ofNat_toNat, BitVec.setWidth_eq]
/-- whatever its rows hold, numbers are there -/
theorem TB.all (hT : TB tb 0 T h) : ∃ T', TB tb 5 T' h := by
  obtain ⟨ρ, π, a1, a2, a3, a4⟩ := hT
  refine ⟨fun i k => (match ex_g h (tb + 2 + π i) with | some (.inl (_, _, f)) => (f k).toBitVec.toNat | _ => 0), ρ, π, a1, a2, a3, fun i hi => ?_⟩
  obtain ⟨f, b1, b2⟩ := a4 i hi
  refine ⟨f, b1, fun _ k hk => ?_⟩
  try dsimp only
  rw [b1]
  exact (nI_sur (f k)).symm
theorem TB.mono {m : Nat} (hm : m ≤ n) (hT : TB tb n T h) : TB tb m T h := by
  obtain ⟨ρ, π, a1, a2, a3, a4⟩ := hT
  refine ⟨ρ, π, a1, a2, a3, fun i hi => ?_⟩
  obtain ⟨f, b1, b2⟩ := a4 i hi
  exact ⟨f, b1, fun him k hk => b2 (by omega) k (by omega)⟩
theorem TB.swap {i j : Nat} (hn : n ≤ 5) (hT : TB tb n T h) (hi : i < n) (hj : j < n) : ∃ (ρ : Nat → Option Nat) (wi wj : Nat) (fi fj : Nat → Int32), ex_g h (tb + 1) = some (cR 2 5 ρ) ∧ ρ i = some wi ∧ ρ j = some wj ∧ (tb + 2 ≤ wi ∧ wi < tb + 7) ∧ (tb + 2 ≤ wj ∧ wj < tb + 7) ∧ ex_g h wi = some (cI 5 fi) ∧ ex_g h wj = some (cI 5 fj) ∧ TB tb n (swp T j i) (ex_set h (tb + 1) (cR 2 5 (va_up (va_up ρ i (some wj)) j (some wi)))) := by
  obtain ⟨ρ, π, a1, a2, a3, a4⟩ := hT
  obtain ⟨fi, b1, b2⟩ := a4 i (by omega)
  obtain ⟨fj, c1, c2⟩ := a4 j (by omega)
  have ai := a2 i (by omega)
  have aj := a2 j (by omega)
  refine ⟨ρ, tb + 2 + π i, tb + 2 + π j, fi, fj, a1, ai.1, aj.1, ⟨by omega, by omega⟩, ⟨by omega, by omega⟩, b1, c1, _, fun q => if q = j then π i else if q = i then π j else π q, g_set, fun q hq => ?_, fun q r hq hr he => ?_, fun q hq => ?_⟩
  · unfold va_up
    try dsimp only
    by_cases e1 : q = j
    · rw [if_pos e1, if_pos e1]; exact ⟨rfl, ai.2⟩
    · rw [if_neg e1, if_neg e1]
      by_cases e2 : q = i
      · rw [if_pos e2, if_pos e2]; exact ⟨rfl, aj.2⟩
      · rw [if_neg e2, if_neg e2]; exact a2 q hq
  · try dsimp only at he
    have k1 := a3 q r hq hr
    have k2 := a3 q i hq (by omega)
    have k3 := a3 q j hq (by omega)
    have k4 := a3 i r (by omega) hr
    have k5 := a3 j r (by omega) hr
    have k6 := a3 i j (by omega) (by omega)
    by_cases e1 : q = j
    · rw [if_pos e1] at he
      by_cases f1 : r = j
      · omega
      · rw [if_neg f1] at he
        by_cases f2 : r = i
        · rw [if_pos f2] at he; omega
        · rw [if_neg f2] at he; omega
    · rw [if_neg e1] at he
      by_cases e2 : q = i
      · rw [if_pos e2] at he
        by_cases f1 : r = j
        · rw [if_pos f1] at he; omega
        · rw [if_neg f1] at he
          by_cases f2 : r = i
          · omega
          · rw [if_neg f2] at he; omega
      · rw [if_neg e2] at he
        by_cases f1 : r = j
        · rw [if_pos f1] at he; omega
        · rw [if_neg f1] at he
          by_cases f2 : r = i
          · rw [if_pos f2] at he; omega
          · rw [if_neg f2] at he; omega
  · try dsimp only
    unfold swp
    by_cases e1 : q = j
    · rw [if_pos e1]
      refine ⟨fi, (g_ne (by omega)).trans b1, fun _ k hk => ?_⟩
      rw [if_pos e1]; exact b2 hi k hk
    · rw [if_neg e1]
      by_cases e2 : q = i
      · rw [if_pos e2]
        refine ⟨fj, (g_ne (by omega)).trans c1, fun _ k hk => ?_⟩
        rw [if_neg e1, if_pos e2]; exact c2 hj k hk
      · rw [if_neg e2]
        obtain ⟨g, d1, d2⟩ := a4 q hq
        have := (a2 q hq).2
        refine ⟨g, (g_ne (by omega)).trans d1, fun hqn k hk => ?_⟩
        rw [if_neg e1, if_neg e2]; exact d2 hqn k hk
theorem rs_I {m q z : Nat} {f : Nat → Option Nat} {e : Nat → Int32} {i : Int32} {F : ex_AC → Prop} : ex_rs (some (cR 2 m f)) (some (cI q e)) i z F = ex_xi i m (fun j => F (cR 2 m (va_up f j (some z)))) := by
  unfold ex_rs
  dsimp only
  rw [if_pos (show ex_may 2 (cI q e) = true from rfl)]
theorem vr_s {w : Nat} {o : Option Nat} (ho : o = some w) : va_rf o = .ref w := by rw [ho]; rfl
/-- halves as the class keeps them -/
theorem TX.hv {r t : Nat} (h1 : 1 ≤ v) (h2 : v ≤ 5) (hr : okR v r) (hT : TX v r t h) : ∃ c2 c3 c4 c5 c6 ρ, ex_g h t = some (cO 6 [.int (nI (tHn v r)), .ref (t + 5), c2, c3, c4, c5, c6]) ∧ ex_g h (t + 5) = some (cR 2 (tHn v r) ρ) ∧ ∀ i, i < tHn v r → ρ i = some (t + 6 + i) ∧ ∃ f, ex_g h (t + 6 + i) = some (cI v f) ∧ ∀ q, q < v → f q = oV (hF v r i q) := by
  obtain ⟨k1, k2, k3, k4⟩ := hO_r h1 h2 hr
  obtain ⟨a1, _, a3, a4⟩ := hT
  rw [k4] at a1 a3 a4
  refine ⟨_, _, _, _, _, _, a1, a3, fun i hi => ⟨if_pos hi, ?_⟩⟩
  obtain ⟨f, b1, b2⟩ := a4 i hi
  exact ⟨f, b1, fun q hq => by rw [b2 q hq, hO_e h1 h2 hr hi hq]⟩
end C22
