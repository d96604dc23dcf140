/-! THE CLAIM OUT OF ONE WALK OF THE LAW'S BODY. Your part is whole_start (and what it stands on); all else here is the same for every law, but numbers. -/
def R_law : String := "LoopStrandsLaw"
def lw_P (b : Addr) (xs : List Int32) (args : Array Value) (s : State) : Prop := args = #[.ref b] ∧ s.IntsAt b xs ∧ xs.length ≤ 2560 ∧ (Jvm.Cond.and given_1 narrow_1).before args s = true
def lw_Q (_ : Array Value) (s : State) (o : Outcome) (t : State) : Prop := o = .returned (some (.int 1)) ∧ Framed s o t [] room_1.cells room_1.slots
def lw_Z (below : List Frame) (a : Array Value) (s : State) : State → Prop := fun t => ∃ o, t.status = .running ∧ Ended t below o ∧ lw_Q a s o t
/-- the law's own end, with 1 on the stack, nothing written that was there before, its room as the claim has it -/
theorem lw_ret {p : Program} {l : Launch} {e : Env} {s : State} {m : MethodId} {below : List Frame} {meth : Method} {c : Code} {b : Nat} (hx : p.tables.exec = Jvm.exec) (hb : c.code = code) (hr : meth.sig.returnType = ret) (hlocks : meth.locks = false) {pc : Nat} {H : Heap} {ls : Array Slot} (hdg : decode code pc = .ok (.ireturn, 1)) : W p l e room_1 s m #[Value.ref b] below meth c H [] room_1.cells room_1.slots (lw_Z below #[Value.ref b] s) (F0 m pc ls [.int 1]) := by
  intro T hT X
  obtain ⟨fs, hret, hrun, hended, hW, hframe⟩ := X.leave (v := some (.int 1)) (hlocks := hlocks) (fun h => by rw [hr] at h; cases h)
  have hmeth' : T.vm.method? m = some meth := X.method'
  refine ⟨T.setFrames fs, ?_, .returned (some (.int 1)), hrun, hended, rfl, ⟨_, rfl⟩, hW, hframe⟩
  jvm_step X.here [X.here.top, hx, hb, hdg, hmeth', hr, ret, narrow_b1]
  (try refine ⟨rfl, ?_⟩); (try refine ⟨rfl, ?_⟩)
  first | (intro acts; rw [hret _ acts rfl rfl rfl]) | rw [hret _ _ rfl rfl rfl]
  exact Steps.refl _
/-- what holds at the law's entry: the machine, the code, the tables' words (any of lw_tbl by 'hts w (by decide +kernel)'), the script of L ints xs at the cell b, what the Statement gives of the start (any of its parts by flat_of_before) -/
def lw_At (p : Program) (s : State) (m : MethodId) (meth : Method) (c : Code) (b L : Nat) (xs : Nat → Int32) : Prop :=
  p.tables.exec = Jvm.exec ∧ c.code = code ∧ meth.sig.returnType = ret ∧ c.maxLocals = 4 ∧ s.vm.findClass R_law = some m.cls ∧ (∀ w ∈ lw_tbl, w.before #[Value.ref b] s = true) ∧ va_X b L xs s s.heap ∧ b < s.heap.size ∧ meth.locks = false ∧ (Jvm.Cond.and given_1 narrow_1).before #[Value.ref b] s = true
/-- the script in the pure machine -/
def ex_h0 (L : Nat) (xs : Nat → Int32) : ex_Hp := (1, 0, fun q => if q = 0 then some (.inl (9, L, xs)) else none)
theorem ex_over_in : ∀ t ∈ ex_over, Jvm.Cond.arrayOver t ∈ lw_tbl := by decide +kernel
theorem ex_nest_in : ∀ w ∈ ex_nest, w ∈ lw_tbl := by decide +kernel
theorem ex_cast_in : Jvm.Cond.castable "[I" "java/lang/Cloneable" ∈ lw_tbl := by decide +kernel
set_option maxRecDepth 100000 in
theorem ex_law_m : ex_m 161 = (yL_law, cL_law, 4, some .boolean, 12, 1, 7, 176) := rfl
theorem ex_known {s : State} {args : Array Value} (hts : ∀ w ∈ lw_tbl, w.before args s = true) {scr : Cell} (hscr : s.isArrayOf scr .int) : ∃ (D : va_G) (dA : Nat → ClassId), ex_K D dA scr s := by
  have hgw : ∀ w ∈ ex_gw, w.before args s = true := fun w hw => hts w (List.mem_filter.mp hw).1
  have h1 : ∀ k : Nat, ∃ q : ClassId × (Nat → Nat), ∀ x : vw_C, vwCl[k]? = some x → u_Kn s x.1 x.2.1 x.2.2 q.1 q.2 := by
    intro k
    by_cases hk : k < 9
    · obtain ⟨cC, iS, h⟩ := u_known (C := (ex_T k).1) (T := (ex_T k).2.1) (N := (ex_T k).2.2) (n := (ex_T k).2.2) hgw (ex_vw_in hk) (hgw _ (ex_vw_new hk).1)
      refine ⟨(cC, iS), fun x hx => ?_⟩
      rw [ex_vw hk] at hx
      cases hx
      exact h
    · refine ⟨(0, fun _ => 0), fun x hx => ?_⟩
      rw [List.getElem?_eq_none (show vwCl.length ≤ k by show 9 ≤ k; omega)] at hx
      cases hx
  obtain ⟨ci, ki, cpi, i1, i2, i3⟩ := Cond.arrayClass_spec (hgw _ (ex_gw_of ex_arr_in.1))
  obtain ⟨cz, kz, cpz, z1, z2, z3⟩ := Cond.arrayClass_spec (hgw _ (ex_gw_of ex_arr_in.2))
  have hov : ∀ t ∈ ex_over, (Jvm.Cond.arrayOver t).before args s = true := fun t ht => hts _ (ex_over_in t ht)
  obtain ⟨co, ca, ka, a1, -, a3, a4, a5⟩ := arrayOverA_spec (hov (.array .int) (by simp [ex_over]))
  obtain ⟨do1, dc1, dk1, d11, -, d13, d14, d15⟩ := Cond.arrayOver_spec (hov (.object RX1) (by simp [ex_over]))
  obtain ⟨do5, dc5, dk5, d51, -, d53, d54, d55⟩ := Cond.arrayOver_spec (hov (.object RX5) (by simp [ex_over]))
  obtain ⟨do7, dc7, dk7, d71, -, d73, d74, d75⟩ := Cond.arrayOver_spec (hov (.object RX7) (by simp [ex_over]))
  refine ⟨(fun k => (Classical.choose (h1 k)).1, fun k => (Classical.choose (h1 k)).2), fun t => ([ci, cz, ca, dc1, dc5, dc7] : List ClassId).getD t 0, ⟨fun k x hx => Classical.choose_spec (h1 k) x hx, fun k x hx => ?_⟩, hscr, fun t ht => ?_, va_Nw.of rfl (hts _ ex_cast_in), fun w hw => ?_⟩
  · match k, hx with
    | 0, hx => cases hx; exact ⟨fun n z => ⟨fun q h => (by cases h), ki, i2, cpi, i3⟩, i1⟩
    | 1, hx => cases hx; exact ⟨fun n z => ⟨fun q h => (by cases h), kz, z2, cpz, z3⟩, z1⟩
    | 2, hx => cases hx; exact ⟨fun n z => ⟨fun q h => (by cases h), ka, a3, co, a4⟩, a5⟩
    | 3, hx => cases hx; exact ⟨fun n z => ⟨fun q h => (by cases h), dk1, d13, do1, d14⟩, dk1, do1, d13, d14, d11, d15⟩
    | 4, hx => cases hx; exact ⟨fun n z => ⟨fun q h => (by cases h), dk5, d53, do5, d54⟩, dk5, do5, d53, d54, d51, d55⟩
    | 5, hx => cases hx; exact ⟨fun n z => ⟨fun q h => (by cases h), dk7, d73, do7, d74⟩, dk7, do7, d73, d74, d71, d75⟩
    | k + 6, hx => simp [ex_tyl] at hx
  · exact hov t ht
  · have hz := hts w (ex_nest_in w hw)
    simp only [ex_nest, List.mem_cons, List.not_mem_nil, or_false] at hw
    rcases hw with rfl | rfl | rfl | rfl | rfl | rfl <;> exact va_Nw.of rfl hz
/-- the law's run in the pure machine gives the walk of its body -/
theorem ex_whole {p : Program} {e : Env} {s : State} {m : MethodId} {below : List Frame} {meth : Method} {c : Code} (l : Launch) {b L : Nat} {xs : Nat → Int32} (C0 : lw_At p s m meth c b L xs) {n : Nat} {h' : ex_Hp} (hrun : ex_run n 161 0 [.ref 0, .long 0, .long 0, .long 0] [] (ex_h0 L xs) = some (some (.int 1), h')) (hb1 : h'.1 ≤ room_1.cells) (hb2 : h'.2.1 ≤ room_1.slots) : W p l e room_1 s m #[Value.ref b] below meth c s.heap [] 0 0 (lw_Z below #[Value.ref b] s) (entryFrame m ([Value.ref b] : List Value).toArray 4) := by
  obtain ⟨hx, hb, hr, hml, hown, hts, hX, hbl, hlocks, hgv⟩ := id C0
  obtain ⟨scr, x1, x2, x3, x4, x5⟩ := hX
  obtain ⟨D, dA, hK⟩ := ex_known hts x2
  obtain ⟨m1, m2, hW⟩ := ex_sound l D dA s.heap.size b scr n 161 0 _ _ _ _ _ hrun
  have e161 := ex_law_m
  have hC : ex_C D dA scr 161 p room_1 s m #[Value.ref b] meth c := by
    unfold ex_C ex_by ex_mL ex_ow ex_nm ex_rt ex_fr ex_lo
    rw [e161]
    exact ⟨hx, hb, hml, hown, fun w hw => hts w (List.mem_filter.mp hw).1, hK, fun z => absurd z (by decide), hr, hlocks, by decide, by decide⟩
  have hRep : ex_Rep D dA s.heap.size b scr (ex_h0 L xs) s.heap := by
    refine ⟨Nat.le_refl 1, rfl, hbl, x1, fun a c' hc => ?_⟩
    simp only [ex_h0] at hc
    by_cases ha : a = 0
    · rw [if_pos ha] at hc
      cases hc
      exact Or.inl ⟨ha, L, xs, rfl, x3, x4, x5⟩
    · rw [if_neg ha] at hc
      cases hc
  have hent := ex_entry (B := s.heap.size) (b := b) (A := [Value.ref 0]) (n := 4) (by decide) (by simp [Value.category])
  rw [entry_eq m [Value.ref b] (by simp [Value.category]) 4]
  have hm4 : ex_mL 161 = 4 := by unfold ex_mL; rw [e161]
  have k := hW p e room_1 s m #[Value.ref b] below meth c (lw_Z below #[Value.ref b] s) s.heap [] 0 0 (h'.1 - 1) h'.2.1 _ hC hRep va_S.rf (by rw [hm4]; exact hent) (by show h'.1 - 1 + 1 = 0 + h'.1; have : 1 ≤ h'.1 := m1; omega) (by show h'.2.1 + 0 = 0 + h'.2.1; omega) (Nat.le_trans (Nat.sub_le _ _) hb1) hb2 ?_
  · exact k
  · intro H' locs' ls' pc' hR' hS' hE
    have hdg : decode code pc' = .ok (.ireturn, 1) := by
      rcases hE with ⟨z, -⟩ | ⟨-, ⟨x, z⟩, -⟩ | ⟨-, z, -⟩
      · have : ex_by 161 = code := by unfold ex_by; rw [e161]
        rw [this] at z
        exact z
      · cases z
      · cases z
    refine va_forget (fun q hq => hS'.2.2 q hq) ?_
    refine W.widen (k := room_1.cells) (n := room_1.slots) (Nat.le_trans (Nat.sub_le _ _) hb1) hb2 ?_
    exact lw_ret hx hb hr hlocks hdg
