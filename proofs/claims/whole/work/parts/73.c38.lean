/-! CLASS AND REFERENCE SIDE BY SIDE -/
def MI (A : Nat → Nat → Int32) (N : Nat) (F : Nat → Int32) (v p lo : Nat) (S : Nat → Nat → Nat) (I : Nat → Option cSt) : Prop := A 0 0 = nI N ∧ A 4 = F ∧ mTab v A ∧ mSt v p lo S (A 1) ∧ ∀ k, k < 2 → (I k = none ∧ A 3 k = nI 0) ∨ ∃ z, I k = some z ∧ A 3 k = nI 1 ∧ mSt z.1 z.2.1 z.2.2.1 z.2.2.2 (fun j => A 2 (213 * k + j))
def LI (c L : Nat) (xs : Nat → Int32) (h : ex_Hp) : Prop := ∃ A N F v p lo S I, RF 63 A h ∧ CI N F v p lo S I h ∧ MI A N F v p lo S I ∧ h.1 ≤ 86 + 200 * c ∧ h.2.1 ≤ 30000 + 7300 * c ∧ ex_g h 0 = some (.inl (9, L, xs))
def LSx (L : Nat) (xs : Nat → Int32) (h : ex_Hp) : Prop := ex_g h 0 = some (.inl (9, L, xs)) ∧ ex_is (ex_g h 63) 8
section C38
variable {h H : ex_Hp} {X Z : Option Value → ex_Hp → Prop} {N v p lo a c L k : Nat} {F xs : Nat → Int32} {S S' : Nat → Nat → Nat} {I : Nat → Option cSt} {A B : Nat → Nat → Int32} {f g : Nat → Int32}
theorem mTab.ag (hT : mTab v A) (h0 : B 0 1 = A 0 1) (h5 : B 5 = A 5) (h6 : B 6 = A 6) (h7 : B 7 = A 7) (h8 : B 8 = A 8) : mTab v B := by
  unfold mTab
  rw [h0, h5, h6, h7, h8]
  exact hT
theorem mSt.ag (hS : mSt v p lo S f) (he : ∀ j, j < 213 → g j = f j) : mSt v p lo S g := by
  obtain ⟨a1, a2, a3, a4⟩ := hS
  exact ⟨(he 0 (by decide)).trans a1, (he 1 (by decide)).trans a2, (he 2 (by decide)).trans a3, fun s hs d hd => (he _ (by omega)).trans (a4 s hs d hd)⟩
theorem clr_n {n j : Nat} (hj : ¬ (3 ≤ j ∧ j < 3 + n)) : clrF f n j = f j := if_neg hj
theorem clr_p {n j : Nat} (hj : 3 ≤ j ∧ j < 3 + n) : clrF f n j = nI 0 := if_pos hj
theorem imF_p {n j : Nat} (hj : 213 * k ≤ j ∧ j < 213 * k + n) : imF k n f g j = g (j - 213 * k) := if_pos hj
theorem imF_n {n j : Nat} (hj : ¬ (213 * k ≤ j ∧ j < 213 * k + n)) : imF k n f g j = f j := if_neg hj
theorem mSt.clr (hS : mSt v p lo S f) : mSt k p lo (fun _ _ => 0) (clrF (upd f 0 (nI k)) 210) := by
  obtain ⟨a1, a2, a3, a4⟩ := hS
  refine ⟨?_, ?_, ?_, fun s hs d hd => ?_⟩
  · rw [clr_n (by omega), pk_us]
  · rw [clr_n (by omega), pk_un (by decide)]; exact a2
  · rw [clr_n (by omega), pk_un (by decide)]; exact a3
  · exact clr_p (by omega)
theorem mSt.clr2 {x y : Nat} (hS : mSt v p lo S f) : mSt v x y (fun _ _ => 0) (clrF (upd (upd f 1 (nI x)) 2 (nI y)) 210) := by
  obtain ⟨a1, a2, a3, a4⟩ := hS
  refine ⟨?_, ?_, ?_, fun s hs d hd => ?_⟩
  · rw [clr_n (by omega), pk_un (by decide), pk_un (by decide)]; exact a1
  · rw [clr_n (by omega), pk_un (by decide), pk_us]
  · rw [clr_n (by omega), pk_us]
  · exact clr_p (by omega)
theorem MI.keep (hM : MI A N F v p lo S I) (hk : mKeep A B) : MI B N F v p lo S I := by
  obtain ⟨m1, m2, m3, m4, m5⟩ := hM
  refine ⟨hk.1.trans m1, (hk.2.2 4 (by decide) (by decide)).trans m2, m3.keep hk, by rw [hk.one]; exact m4, ?_⟩
  rw [hk.2.2 3 (by decide) (by decide), hk.2.2 2 (by decide) (by decide)]
  exact m5
theorem MI.one (hM : MI A N F v p lo S I) (hS : mSt v p lo S' f) : MI (ua A 1 f) N F v p lo S' I := by
  obtain ⟨m1, m2, m3, m4, m5⟩ := hM
  refine ⟨by rw [ua_n (by decide)]; exact m1, by rw [ua_n (by decide)]; exact m2, m3.ua (by decide) (by decide) (by decide) (by decide) (by decide), by rw [ua_s]; exact hS, ?_⟩
  rw [ua_n (show ¬ 3 = 1 by decide), ua_n (show ¬ 2 = 1 by decide)]
  exact m5
theorem MI.sum (hM : MI A N F v p lo S I) (hk : mKeep (ua A 1 (B 1)) B) (hS : mSt v p lo S' (B 1)) : MI B N F v p lo S' I := (hM.one hS).keep hk
/-- the reference's tables are laid anew -/
theorem MI.lay {w p' lo' : Nat} (hM : MI A N F v p lo S I) (hB : ∀ j, ¬ j = 0 → ¬ j = 1 → ¬ j = 5 → ¬ j = 6 → ¬ j = 7 → ¬ j = 8 → ¬ j = 9 → ¬ j = 10 → ¬ j = 11 → B j = A j) (h0 : ∀ j, ¬ j = 1 → B 0 j = A 0 j) (hT : mTab w B) (hS : mSt w p' lo' S' (B 1)) : MI B N F w p' lo' S' I := by
  obtain ⟨m1, m2, m3, m4, m5⟩ := hM
  refine ⟨(h0 0 (by decide)).trans m1, (hB 4 (by decide) (by decide) (by decide) (by decide) (by decide) (by decide) (by decide) (by decide) (by decide)).trans m2, hT, hS, ?_⟩
  rw [hB 3 (by decide) (by decide) (by decide) (by decide) (by decide) (by decide) (by decide) (by decide) (by decide), hB 2 (by decide) (by decide) (by decide) (by decide) (by decide) (by decide) (by decide) (by decide) (by decide)]
  exact m5
theorem MI.pad {N' : Nat} {F' : Nat → Int32} (hM : MI A N F v p lo S I) (h0 : B 0 0 = nI N') (h01 : B 0 1 = A 0 1) (h4 : B 4 = F') (hB : ∀ j, ¬ j = 0 → ¬ j = 4 → B j = A j) : MI B N' F' v p lo S I := by
  obtain ⟨m1, m2, m3, m4, m5⟩ := hM
  refine ⟨h0, h4, m3.ag h01 (hB 5 (by decide) (by decide)) (hB 6 (by decide) (by decide)) (hB 7 (by decide) (by decide)) (hB 8 (by decide) (by decide)), by rw [hB 1 (by decide) (by decide)]; exact m4, ?_⟩
  rw [hB 3 (by decide) (by decide), hB 2 (by decide) (by decide)]
  exact m5
theorem MI.img (hM : MI A N F v p lo S I) (hk : k < 2) : MI (ua (ua A 2 (imF k 213 (A 2) (A 1))) 3 (upd (A 3) k (nI 1))) N F v p lo S (va_up I k (some (v, p, lo, S))) := by
  obtain ⟨m1, m2, m3, m4, m5⟩ := hM
  refine ⟨by rw [ua_n (by decide), ua_n (by decide)]; exact m1, by rw [ua_n (by decide), ua_n (by decide)]; exact m2, (m3.ua (by decide) (by decide) (by decide) (by decide) (by decide)).ua (by decide) (by decide) (by decide) (by decide) (by decide), by rw [ua_n (by decide), ua_n (by decide)]; exact m4, fun j hj => ?_⟩
  rw [ua_s, ua_n (show ¬ 2 = 3 by decide), ua_s]
  by_cases e : j = k
  · subst e
    refine Or.inr ⟨_, va_up_self _ _ _, pk_us, m4.ag (fun i hi => ?_)⟩
    rw [imF_p (by omega), show 213 * j + i - 213 * j = i by omega]
  · rw [va_up_ne _ _ e, pk_un e]
    rcases m5 j hj with y | ⟨z, y1, y2, y3⟩
    · exact Or.inl y
    · refine Or.inr ⟨z, y1, y2, y3.ag (fun i hi => ?_)⟩
      exact imF_n (by omega)
theorem RF.cc (hR : RF 63 A h) (hc : chC h H) : RF 63 A H := hR.fr (fun q h1 h2 => hc.1 q (by omega))
theorem RF.ls (hR : RF 63 A h) (hs : ex_g h 0 = some (.inl (9, L, xs))) : LSx L xs h := ⟨hs, by rw [hR.1]; exact rfl⟩
theorem LI.fin (hC : CI N F v p lo S I H) (hM : MI B N F v p lo S I) (hc : chC h H) (l1 : h.1 ≤ 86 + 200 * c) (l2 : h.2.1 ≤ 30000 + 7300 * c) (l3 : ex_g h 0 = some (.inl (9, L, xs))) : LI (c + 1) L xs (mdl 63 B H) := by
  obtain ⟨ρ, ι, hC⟩ := hC
  have e1 := hc.2.2.1
  have e2 := hc.2.2.2
  refine ⟨B, N, F, v, p, lo, S, I, mdl_RF, ⟨ρ, ι, hC.ref rfl (fun q hq => mg_n (by omega))⟩, hM, ?_, ?_, ?_⟩
  · show H.1 ≤ 86 + 200 * (c + 1)
    rw [Nat.mul_succ, ← Nat.add_assoc]
    exact Nat.le_trans e1 (Nat.add_le_add_right l1 200)
  · show H.2.1 ≤ 30000 + 7300 * (c + 1)
    rw [Nat.mul_succ, ← Nat.add_assoc]
    exact Nat.le_trans e2 (Nat.add_le_add_right l2 7300)
  · rw [mg_n (by omega), hc.1 0 (by omega)]
    exact l3
/-- what the law reads between the calls -/
theorem LI.ls (hL : LI c L xs h) : LSx L xs h ∧ ex_is (ex_g h 1) 7 ∧ h.1 ≤ 86 + 200 * c ∧ h.2.1 ≤ 30000 + 7300 * c := by
  obtain ⟨A, N, F, v, p, lo, S, I, hR, ⟨ρ, ι, hC⟩, hM, l1, l2, l3⟩ := hL
  exact ⟨hR.ls l3, by rw [hC.2.2.2.2.1]; exact rfl, l1, l2⟩
end C38
