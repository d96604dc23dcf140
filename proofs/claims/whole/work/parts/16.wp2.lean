/-! more of it: branches, divisions, makings, calls -/
def ex_na0 (i : Int32) (F : Nat → Prop) : Prop := if i < 0 ∨ 100000 < i.toNatClampNeg then False else F i.toNatClampNeg
def ex_is (c : Option ex_AC) (ci : Nat) : Prop := match c with
  | some (.inr (.inr (c', _))) => c' = ci
  | _ => False
def ex_ck (c : Option ex_AC) (P : Prop) : Prop := match c with
  | some (.inl (t, _, _)) => if t = 0 then P else False
  | _ => False
def ex_cln (c : Option ex_AC) (F : Nat → (Nat → Int32) → Prop) : Prop := match c with
  | some (.inl (t, n, f)) => if t = 0 then F n f else False
  | _ => False
def ex_cpy (c d : Option ex_AC) (sp dp n : Int32) (F : ex_AC → Prop) : Prop := match c, d with
  | some (.inl (t0, n0, f)), some (.inl (t1, n1, g)) => if t0 = 0 ∧ t1 = 0 ∧ ¬ sp < 0 ∧ ¬ dp < 0 ∧ ¬ n < 0 ∧ sp.toNatClampNeg + n.toNatClampNeg ≤ n0 ∧ dp.toNatClampNeg + n.toNatClampNeg ≤ n1 then F (.inl (t1, n1, va_cpy f g sp.toNatClampNeg dp.toNatClampNeg n.toNatClampNeg)) else False
  | _, _ => False
section WL
variable {y pc len a c nx : Nat} {v : Int32} {ins : Instr} {L S : List Value} {h : ex_Hp} {X : Option Value → ex_Hp → Prop} {o : Nat} {i x z : Int32}
theorem w_cmp {k : Bool} {p : Prop} [Decidable p] {b : Nat} (hp : k = true ↔ p) : ex_W y (if k = true then a else b) L S h X ↔ if p then ex_W y a L S h X else ex_W y b L S h X := by
  by_cases hq : p
  · rw [if_pos hq, if_pos (hp.mpr hq)]
  · rw [if_neg hq, if_neg (fun t => hq (hp.mp t))]
theorem w_idiv (hm : ex_mo y pc = (.idiv, 1, a, c, v)) : ex_W y pc L (.int z :: .int x :: S) h X ↔ ¬ z = 0 ∧ ex_W y (pc + 1) L (.int (x / z) :: S) h X := by
  by_cases hz : z = 0
  · rw [w_no (by rw [hm]; simp [ex_kind]) (by rw [hm]; simp [ex_kind]) (by simp [ex_step, hm, ex_kind, ex_st1, ex_ari, hz])]
    simp [hz]
  · rw [w_st (pc' := pc + 1) (L' := L) (S' := .int (x / z) :: S) (h1 := h) (by simp [ex_step, hm, ex_kind, ex_st1, ex_ari, hz])]
    simp [hz]
theorem w_irem (hm : ex_mo y pc = (.irem, 1, a, c, v)) : ex_W y pc L (.int z :: .int x :: S) h X ↔ ¬ z = 0 ∧ ex_W y (pc + 1) L (.int (x - x / z * z) :: S) h X := by
  by_cases hz : z = 0
  · rw [w_no (by rw [hm]; simp [ex_kind]) (by rw [hm]; simp [ex_kind]) (by simp [ex_step, hm, ex_kind, ex_st1, ex_ari, hz])]
    simp [hz]
  · rw [w_st (pc' := pc + 1) (L' := L) (S' := .int (x - x / z * z) :: S) (h1 := h) (by simp [ex_step, hm, ex_kind, ex_st1, ex_ari, hz])]
    simp [hz]
theorem w_tsw {d hi : Int} {offs : Array Int} (hm : ex_mo y pc = (.tableswitch d 0 hi offs, len, a, c, v)) : ex_W y pc L (.int x :: S) h X ↔ if x.toInt < 0 ∨ hi < x.toInt then ex_W y a L S h X else match offs[x.toInt.toNat]? with | some o => ex_W y ((pc : Int) + o).toNat L S h X | none => False := by
  by_cases hz : x.toInt < 0 ∨ hi < x.toInt
  · rw [if_pos hz]
    exact w_st (by simp [ex_step, hm, ex_kind, ex_st2, hz])
  · rw [if_neg hz]
    cases ho : offs[x.toInt.toNat]? with
    | none => exact w_no (by rw [hm]; simp [ex_kind]) (by rw [hm]; simp [ex_kind]) (by simp only [ex_step, hm, ex_kind, ex_st2, if_neg hz, Int.sub_zero, ho])
    | some o => exact w_st (by simp only [ex_step, hm, ex_kind, ex_st2, if_neg hz, Int.sub_zero, ho])
theorem w_nwa {t : ArrayType} (hm : ex_mo y pc = (.newarray t, len, a, c, v)) (hn : pc + len = nx) : ex_W y pc L (.int i :: S) h X ↔ ex_na0 i (fun n => ex_W y nx L (.ref h.1 :: S) (ex_new h (.inl (a, n, fun _ => 0)) n) X) := by
  subst hn
  rw [w_m4 rfl hm]
  simp only [ex_st4, ex_na0]
  by_cases hc : i < 0 ∨ 100000 < i.toNatClampNeg
  · simp only [if_pos hc]
  · simp only [if_neg hc]
theorem w_nwr {t : Nat} (hm : ex_mo y pc = (.anewarray t, len, a, c, v)) (hn : pc + len = nx) : ex_W y pc L (.int i :: S) h X ↔ ex_na0 i (fun n => ex_W y nx L (.ref h.1 :: S) (ex_new h (cR a n (fun _ => none)) n) X) := by
  subst hn
  rw [w_m4 rfl hm]
  simp only [ex_st4, ex_na0]
  by_cases hc : i < 0 ∨ 100000 < i.toNatClampNeg
  · simp only [if_pos hc]
  · simp only [if_neg hc]
theorem w_nw2 {t u : Nat} (hm : ex_mo y pc = (.multianewarray t u, len, a, c, v)) (hn : pc + len = nx) : ex_W y pc L (.int i :: .int x :: S) h X ↔ ex_na0 x (fun n => ex_na0 i (fun k => ex_W y nx L (.ref h.1 :: S) (ex_new2 h n k) X)) := by
  subst hn
  rw [w_m4 rfl hm]
  simp only [ex_st4, ex_na0]
  by_cases hc : x < 0 ∨ 100000 < x.toNatClampNeg
  · rw [if_pos hc, if_pos (hc.elim Or.inl (fun q => Or.inr (Or.inl q)))]
  · rw [if_neg hc]
    by_cases hd : i < 0 ∨ 100000 < i.toNatClampNeg
    · rw [if_pos hd, if_pos (Or.inr (Or.inr hd))]
    · rw [if_neg hd, if_neg (fun q => q.elim (fun q => hc (Or.inl q)) (fun q => q.elim (fun q => hc (Or.inr q)) hd))]
theorem w_ckc {t : Nat} (hm : ex_mo y pc = (.checkcast t, len, a, c, v)) (hn : pc + len = nx) : ex_W y pc L (.ref o :: S) h X ↔ ex_ck (ex_g h o) (ex_W y nx L (.ref o :: S) h X) := by
  subst hn
  rw [w_m3 (fun _ => rfl) hm]
  simp only [ex_st3, ex_ck, ex_g]
  generalize h.2.2 o = z
  rcases z with _ | (⟨t, n, f⟩ | (⟨t, n, f⟩ | ⟨ci, fs⟩)) <;> try exact Iff.rfl
  dsimp only
  by_cases hc : t = 0
  · simp only [if_pos hc]
  · simp only [if_neg hc]
theorem w_obj {t : Nat} (hm : ex_mo y pc = (.invokespecial t, len, 1000, c, v)) (hn : pc + len = nx) : ex_W y pc L (.ref o :: S) h X ↔ ex_cat S ≤ 8 ∧ ex_W y nx L S h X := by
  subst hn
  rw [w_m4 rfl hm]
  simp only [ex_st4]
  by_cases hc : ex_cat S ≤ 8
  · simp only [if_pos hc]
    simp only [hc, true_and]
  · simp only [if_neg hc]
    simp only [hc, false_and]
theorem w_min {t : Nat} (hm : ex_mo y pc = (.invokestatic t, len, 1003, c, v)) (hn : pc + len = nx) : ex_W y pc L (.int z :: .int x :: S) h X ↔ ex_cat S ≤ 8 ∧ ex_W y nx L (.int (if z < x then z else x) :: S) h X := by
  subst hn
  rw [w_m4 rfl hm]
  simp only [ex_st4, if_true]
  by_cases hc : ex_cat S ≤ 8
  · simp only [if_pos hc]
    simp only [hc, true_and]
  · simp only [if_neg hc]
    simp only [hc, false_and]
theorem w_cln {t : Nat} (hm : ex_mo y pc = (.invokevirtual t, len, 1002, c, v)) (hn : pc + len = nx) : ex_W y pc L (.ref o :: S) h X ↔ ex_cat S ≤ 8 ∧ ex_cln (ex_g h o) (fun n f => ex_W y nx L (.ref h.1 :: S) (ex_new h (cI n f) n) X) := by
  subst hn
  rw [w_m4 rfl hm]
  simp only [ex_st4, ex_cln, ex_g]
  generalize h.2.2 o = z
  rcases z with _ | (⟨t, n, f⟩ | (⟨t, n, f⟩ | ⟨ci, fs⟩)) <;> try (simp only [and_false]; done)
  dsimp only
  by_cases hc : t = 0
  · subst hc
    by_cases hd : ex_cat S ≤ 8
    · simp only [if_pos, hd, true_and, and_self]
    · simp only [hd, and_false, if_false, false_and]
  · simp only [hc, false_and, if_false, and_false]
theorem w_cpy {t d : Nat} {n dp sp : Int32} (hm : ex_mo y pc = (.invokestatic t, len, 1001, c, v)) (hn : pc + len = nx) : ex_W y pc L (.int n :: .int dp :: .ref d :: .int sp :: .ref o :: S) h X ↔ ex_cat S ≤ 8 ∧ ex_cpy (ex_g h o) (ex_g h d) sp dp n (fun w => ex_W y nx L S (ex_set h d w) X) := by
  subst hn
  rw [w_m4 rfl hm]
  simp only [ex_st4, ex_cpy, ex_g, show ¬ ((1001 : Nat) = 1003) by decide, if_false]
  generalize h.2.2 o = z1
  generalize h.2.2 d = z2
  rcases z1 with _ | (⟨t, n0, f⟩ | (⟨t, n0, f⟩ | ⟨ci, fs⟩)) <;> rcases z2 with _ | (⟨t2, n2, f2⟩ | (⟨t2, n2, f2⟩ | ⟨ci2, fs2⟩)) <;> try (simp only [and_false]; done)
  dsimp only
  by_cases hd : ex_cat S ≤ 8
  · by_cases hc : t = 0 ∧ t2 = 0 ∧ ¬ sp < 0 ∧ ¬ dp < 0 ∧ ¬ n < 0 ∧ sp.toNatClampNeg + n.toNatClampNeg ≤ n0 ∧ dp.toNatClampNeg + n.toNatClampNeg ≤ n2
    · rw [if_pos ⟨hd, hc⟩, if_pos hc]
      simp only [hd, true_and]
    · rw [if_neg (fun q => hc q.2), if_neg hc]
      simp only [and_false]
  · rw [if_neg (fun q => hd q.1)]
    simp only [hd, false_and]
theorem w_rez (hm : ex_mo y pc = (.ireturn, 1, 1, c, v)) : ex_W y pc L [.int x] h X ↔ (x = 0 ∨ x = 1) ∧ X (some (.int x)) h := by
  by_cases hz : x = 0 ∨ x = 1
  · rw [w_re (r := some (.int x)) (by rw [hm]; rfl) (by simp [ex_end, hm, hz])]
    simp only [hz, true_and]
  · constructor
    · rintro ⟨n, r, h', hr, hX⟩
      cases n with
      | zero => cases hr
      | succ n =>
        have he : ex_end y pc [.int x] = none := by simp [ex_end, hm, hz]
        have hk : ex_kind Instr.ireturn 1 = 6 := rfl
        simp only [ex_run, hm, hk, he] at hr
        cases hr
    · intro q
      exact absurd q.1 hz
theorem w_cas {A rest L0 : List Value} {cN : Nat} (hm : ex_mo y pc = (ins, len, a, cN, v)) (hk : ex_kind ins a = 5) (hnx : pc + len = nx) (hS : S = A.reverse ++ rest) (hlen : A.length = cN) (hc : A.all (fun v => v.category == 1) = true) (hL0 : ex_in a A = L0) (hrec : ∀ h, ex_recv a A h = true) :
    ex_W y pc L S h X ↔ ex_cat rest ≤ 8 ∧ ex_W a 0 L0 [] h (fun r h1 => ex_W y nx L (r.toList ++ rest) h1 X) := by
  subst hlen
  have e1 : S.take A.length = A.reverse := by rw [hS, List.take_left' (by rw [List.length_reverse])]
  have e2 : S.drop A.length = rest := by rw [hS, List.drop_left' (by rw [List.length_reverse])]
  rw [w_ca (A := A) (rest := rest) hm hk hnx (by rw [e1, List.reverse_reverse]) e2 (by rw [hS]; simp) (by rw [e1, List.all_reverse]; exact hc) hL0]
  simp only [hrec h, true_and]
theorem ex_recv_is {As : List Value} {ci : Nat} (hk : ex_kd a = 1) (hv : ex_vwi.getD (ex_ow a) 9 = ci) : ex_recv a (.ref o :: As) h = true ↔ ex_is (ex_g h o) ci := by
  subst hv
  simp only [ex_recv, hk, ex_is, ex_g]
  generalize h.2.2 o = z
  rcases z with _ | (⟨t, n, f⟩ | (⟨t, n, f⟩ | ⟨ci, fs⟩)) <;> simp
theorem w_cav {As rest L0 : List Value} {cN ci : Nat} (hm : ex_mo y pc = (ins, len, a, cN, v)) (hk : ex_kind ins a = 5) (hnx : pc + len = nx) (hS : S = (Value.ref o :: As).reverse ++ rest) (hlen : As.length + 1 = cN) (hc : As.all (fun v => v.category == 1) = true) (hL0 : ex_in a (.ref o :: As) = L0) (hkd : ex_kd a = 1) (hv : ex_vwi.getD (ex_ow a) 9 = ci) :
    ex_W y pc L S h X ↔ ex_cat rest ≤ 8 ∧ ex_is (ex_g h o) ci ∧ ex_W a 0 L0 [] h (fun r h1 => ex_W y nx L (r.toList ++ rest) h1 X) := by
  have hlen2 : (Value.ref o :: As).length = cN := hlen
  subst hlen2
  have e1 : S.take (Value.ref o :: As).length = (Value.ref o :: As).reverse := by rw [hS, List.take_left' (by rw [List.length_reverse])]
  have e2 : S.drop (Value.ref o :: As).length = rest := by rw [hS, List.drop_left' (by rw [List.length_reverse])]
  rw [w_ca (A := .ref o :: As) (rest := rest) hm hk hnx (by rw [e1, List.reverse_reverse]) e2 (by rw [hS]; simp) (by rw [e1, List.all_reverse]; simp only [List.all_cons, hc, Bool.and_true]; rfl) hL0, ex_recv_is hkd hv]
end WL
