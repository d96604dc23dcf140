theorem ex_st3_sz {ins : Instr} {a cN : Nat} {S S' : List Value} {h h' : ex_Hp} (hst : ex_st3 ins a cN S h = some (S', h')) : h'.1 = h.1 ∧ h'.2.1 = h.2.1 := by
  unfold ex_st3 at hst
  repeat' split at hst
  all_goals first | (cases hst; exact ⟨rfl, rfl⟩) | (cases hst; done)
theorem ex_st4_sz {ins : Instr} {a : Nat} {S S' : List Value} {h h' : ex_Hp} (hst : ex_st4 ins a S h = some (S', h')) : h.1 ≤ h'.1 ∧ h.2.1 ≤ h'.2.1 := by
  unfold ex_st4 at hst
  repeat' split at hst
  all_goals first | (cases hst; done) | (cases hst; exact ⟨Nat.le_refl _, Nat.le_refl _⟩) | (cases hst; simp only [ex_new, ex_new2, ex_set]; omega)
theorem ex_st1_nop {a : Nat} {v : Int32} {L S : List Value} : ex_st1 .nop a v L S = none := by
  simp only [ex_st1, ex_ari]
  split <;> rfl
theorem ex_sound (l : Launch) (D : va_G) (dA : Nat → ClassId) (B b : Nat) (scr : Cell) : ∀ (n y pc : Nat) (L S : List Value) (h : ex_Hp) (r : Option Value) (h' : ex_Hp), ex_run n y pc L S h = some (r, h') → ex_Snd l D dA B b scr y pc L S h r h' := by
  intro n
  induction n with
  | zero => intro y pc L S h r h' hrun; cases hrun
  | succ n ih =>
    intro y pc L S h r h' hrun
    obtain ⟨ins, len, a, cN, v, hmo⟩ : ∃ (ins : Instr) (len a cN : Nat) (v : Int32), ex_mo y pc = (ins, len, a, cN, v) := ⟨_, _, _, _, _, rfl⟩
    rw [ex_run, hmo] at hrun
    dsimp only at hrun
    split at hrun
    · rename_i hkd
      obtain ⟨hdg, hok⟩ := ex_okI_of hmo (by intro z; subst z; exact absurd hkd (show ¬ ((1 : Nat) = 5) by decide))
      split at hrun
      · rename_i hc
        obtain ⟨hc1, hc2, hc3, hc4⟩ := hc
        split at hrun
        · rename_i r1 h1 hrun1
          have I1 := ih _ _ _ _ _ _ _ hrun1
          have I2 := ih _ _ _ _ _ _ _ hrun
          have m1 := I1.1
          have m2 := I1.2.1
          have m3 := I2.1
          have m4 := I2.2.1
          refine ⟨Nat.le_trans m1 m3, Nat.le_trans m2 m4, ?_⟩
          intro p e R s m args below meth c Q H locs cells slots mc ms ls hC hR hS hL e1 e2 b1 b2 hend
          obtain ⟨hlen, hrun5⟩ := ex_s5 (l := l) (e := e) (below := below) (locs := locs) (cells := cells) (slots := slots) hC hR hL.1 hdg hok hkd hc1 hc2 hc3 hc4 (fun z1 z2 => ex_met z1 (by rw [List.length_reverse, List.length_take, z2]; omega) (fun w hw => by
            have := List.all_eq_true.mp hc3 w (List.mem_reverse.mp hw)
            simpa using this) I1) ⟨by omega, by omega⟩
          subst hlen
          intro T hT X
          obtain ⟨v', st₀, t, T', Lc, h0, X', hL', f1, f2, ⟨hv, hRep1, hF⟩, st⟩ := hrun5 T hT X
          cases hv
          have hS' : va_S (fun q => B ≤ q) s.heap T'.heap (locs ++ Lc) := by
            refine ⟨Nat.le_trans hS.1 (by rw [f1, ← h0]; exact hF.1), fun q z1 z2 => ?_, fun q hq => ?_⟩
            · rw [f1, hF.2 q (by rw [h0]; exact Nat.lt_of_lt_of_le z1 hS.1) z2, h0]
              exact hS.2.1 q z1 z2
            · rcases List.mem_append.mp hq with z | z
              · exact hS.2.2 q z
              · exact hL' q z
          obtain ⟨t2, a1, q1⟩ := I2.2.2 p e R s m args below meth c Q T'.heap (locs ++ Lc) (cells + (h1.1 - h.1)) (slots + (h1.2.1 - h.2.1)) mc ms ls hC (by rw [f1]; exact hRep1) hS' hL (by omega) (by omega) b1 b2 hend T' rfl X'
          refine ⟨t2, st t2 ?_, q1⟩
          cases r1 <;> exact a1
        · cases hrun
      · cases hrun
    · split at hrun
      · rename_i hE
        cases hrun
        obtain ⟨hE1, rfl⟩ := ex_end_E hE
        refine ⟨Nat.le_refl _, Nat.le_refl _, ?_⟩
        intro p e R s m args below meth c Q H locs cells slots mc ms ls hC hR hS hL e1 e2 b1 b2 hend
        obtain rfl : mc = cells := by omega
        obtain rfl : ms = slots := by omega
        exact hend H locs ls pc hR hS hE1
      · cases hrun
    · split at hrun
      · rename_i pc' L' S' h1 hst
        have I2 := ih _ _ _ _ _ _ _ hrun
        unfold ex_step at hst
        rw [hmo] at hst
        dsimp only at hst
        split at hst
        · split at hst
          · rename_i L1 S1 hst1
            cases hst
            obtain ⟨hdg, hok⟩ := ex_okI_of hmo (by intro z; subst z; rw [ex_st1_nop] at hst1; cases hst1)
            refine ⟨I2.1, I2.2.1, ?_⟩
            intro p e R s m args below meth c Q H locs cells slots mc ms ls hC hR hS hL e1 e2 b1 b2 hend
            exact ex_s1 hC.1 hC.2.1 hdg hok hst1 hL (fun ls' hL' => I2.2.2 p e R s m args below meth c Q H locs cells slots mc ms ls' hC hR hS hL' e1 e2 b1 b2 hend)
          · cases hst
        · rename_i hkd
          split at hst
          · rename_i q1 S1 hst1
            cases hst
            obtain ⟨hdg, hok⟩ := ex_okI_of hmo (by intro z; subst z; exact absurd hkd (show ¬ ((1 : Nat) = 2) by decide))
            refine ⟨I2.1, I2.2.1, ?_⟩
            intro p e R s m args below meth c Q H locs cells slots mc ms ls hC hR hS hL e1 e2 b1 b2 hend
            exact ex_s2 hC.1 hC.2.1 hdg hok hst1 (I2.2.2 p e R s m args below meth c Q H locs cells slots mc ms ls hC hR hS hL e1 e2 b1 b2 hend)
          · cases hst
        · rename_i hkd
          split at hst
          · rename_i S1 h2 hst1
            cases hst
            obtain ⟨hdg, hok⟩ := ex_okI_of hmo (by intro z; subst z; exact absurd hkd (show ¬ ((1 : Nat) = 3) by decide))
            have hsz : h1.1 = h.1 ∧ h1.2.1 = h.2.1 := ex_st3_sz hst1
            refine ⟨by rw [← hsz.1]; exact I2.1, by rw [← hsz.2]; exact I2.2.1, ?_⟩
            intro p e R s m args below meth c Q H locs cells slots mc ms ls hC hR hS hL e1 e2 b1 b2 hend
            obtain ⟨c1, c2, c3, c4, c5, c6, c7, c8, c9, c10, c11⟩ := hC
            exact ex_s3 c1 c2 c5 c4 c6 c7 hR hS hdg hok hst1 (fun H' locs' hR' hS' => I2.2.2 p e R s m args below meth c Q H' locs' cells slots mc ms ls ⟨c1, c2, c3, c4, c5, c6, c7, c8, c9, c10, c11⟩ hR' hS' hL (by rw [hsz.1]; exact e1) (by rw [hsz.2]; exact e2) b1 b2 hend)
          · cases hst
        · rename_i hkd
          split at hst
          · rename_i S1 h2 hst1
            cases hst
            obtain ⟨hdg, hok⟩ := ex_okI_of hmo (by intro z; subst z; exact absurd hkd (show ¬ ((1 : Nat) = 4) by decide))
            have hsz : h.1 ≤ h1.1 ∧ h.2.1 ≤ h1.2.1 := ex_st4_sz hst1
            have m3 := I2.1
            have m4 := I2.2.1
            refine ⟨Nat.le_trans hsz.1 m3, Nat.le_trans hsz.2 m4, ?_⟩
            intro p e R s m args below meth c Q H locs cells slots mc ms ls hC hR hS hL e1 e2 b1 b2 hend
            have hz1 := hsz.1
            have hz2 := hsz.2
            obtain ⟨c1, c2, c3, c4, c5, c6, c7, c8, c9, c10, c11⟩ := hC
            exact ex_s4 (cells' := cells + (h1.1 - h.1)) (slots' := slots + (h1.2.1 - h.2.1)) c1 c2 (c3.trans hL.1.symm) c5 c4 c6 hR hS c10 c11 hdg hok hkd hst1 (by omega) (by omega) (by omega) (by omega) (fun H' locs' hR' hS' => I2.2.2 p e R s m args below meth c Q H' locs' _ _ mc ms ls ⟨c1, c2, c3, c4, c5, c6, c7, c8, c9, c10, c11⟩ hR' hS' hL (by omega) (by omega) b1 b2 hend)
          · cases hst
        · cases hst
      · cases hrun
