/-! THE PURE MACHINE's RUN IS THE MACHINE's. -/
def ex_C (D : va_G) (dA : Nat → ClassId) (scr : Cell) (y : Nat) (p : Program) (R : Room) (s : State) (m : MethodId) (args : Array Value) (meth : Method) (c : Code) : Prop :=
  p.tables.exec = Jvm.exec ∧ c.code = ex_by y ∧ c.maxLocals = ex_mL y ∧ s.vm.findClass (ex_o (ex_ow y)) = some m.cls ∧ (∀ w ∈ ex_gw, w.before args s = true) ∧ ex_K D dA scr s ∧ ((ex_nm y).name = "<init>" → meth.name = "<init>") ∧ meth.sig.returnType = ex_rt y ∧ meth.locks = false ∧ ex_fr y ≤ R.frames ∧ ex_lo y ≤ R.locals
def ex_E (y pc : Nat) (r : Option Value) : Prop :=
  (decode (ex_by y) pc = .ok (.ireturn, 1) ∧ ∃ x : Int32, r = some (.int x) ∧ (ex_rt y = some .int ∨ (ex_rt y = some .boolean ∧ (x = 0 ∨ x = 1)))) ∨
  (decode (ex_by y) pc = .ok (.areturn, 1) ∧ (∃ x : Nat, r = some (.ref x)) ∧ ex_rt y = some (.array .int)) ∨
  (decode (ex_by y) pc = .ok (.return_, 1) ∧ r = none ∧ ex_rt y = none)
def ex_Snd (l : Launch) (D : va_G) (dA : Nat → ClassId) (B b : Nat) (scr : Cell) (y pc : Nat) (L S : List Value) (h : ex_Hp) (r : Option Value) (h' : ex_Hp) : Prop :=
  h.1 ≤ h'.1 ∧ h.2.1 ≤ h'.2.1 ∧ ∀ (p : Program) (e : Env) (R : Room) (s : State) (m : MethodId) (args : Array Value) (below : List Frame) (meth : Method) (c : Code) (Q : State → Prop) (H : Heap) (locs : List Loc) (cells slots mc ms : Nat) (ls : Array Slot),
    ex_C D dA scr y p R s m args meth c → ex_Rep D dA B b scr h H → va_S (fun q => B ≤ q) s.heap H locs → ex_L B b ls (ex_mL y) L → mc + h.1 = cells + h'.1 → ms + h.2.1 = slots + h'.2.1 → mc ≤ R.cells → ms ≤ R.slots →
    (∀ (H' : Heap) (locs' : List Loc) (ls' : Array Slot) (pc' : Nat), ex_Rep D dA B b scr h' H' → va_S (fun q => B ≤ q) s.heap H' locs' → ex_E y pc' r → W p l e R s m args below meth c H' locs' mc ms Q (F0 m pc' ls' (r.toList.map (ex_sv B b)))) →
    W p l e R s m args below meth c H locs cells slots Q (F0 m pc ls (S.map (ex_sv B b)))
theorem ex_okI_of {y pc : Nat} {ins : Instr} {len a cN : Nat} {v : Int32} (hmo : ex_mo y pc = (ins, len, a, cN, v)) (hne : ins ≠ .nop) : decode (ex_by y) pc = .ok (ins, len) ∧ ex_okA y pc ins len a cN v = true := by
  have h1 : ¬ ex_mo y pc = ex_no := fun z => by
    rw [hmo] at z
    exact hne (congrArg Prod.fst z)
  have h2 := ex_ok h1
  rw [hmo] at h2
  unfold ex_okI at h2
  rw [Bool.and_eq_true, decide_eq_true_eq] at h2
  exact h2
theorem ex_end_E {y pc : Nat} {S : List Value} {r : Option Value} (h : ex_end y pc S = some r) : ex_E y pc r ∧ S = r.toList := by
  obtain ⟨ins, len, a, cN, v, hmo⟩ : ∃ (ins : Instr) (len a cN : Nat) (v : Int32), ex_mo y pc = (ins, len, a, cN, v) := ⟨_, _, _, _, _, rfl⟩
  unfold ex_end at h
  rw [hmo] at h
  dsimp only at h
  split at h
  · obtain ⟨h1, h2⟩ := ex_okI_of hmo (by intro z; cases z)
    split at h
    · split at h
      · rename_i x hx
        cases h
        simp only [ex_okA, Bool.and_eq_true, Bool.or_eq_true, decide_eq_true_eq] at h2
        obtain ⟨rfl, h3⟩ := h2
        refine ⟨Or.inl ⟨h1, x, rfl, ?_⟩, rfl⟩
        rcases h3 with ⟨ha, h3⟩ | ⟨ha, h3⟩
        · exact Or.inl h3
        · refine Or.inr ⟨h3, ?_⟩
          rcases hx with hx | hx
          · omega
          · exact hx
      · cases h
    · cases h
  · obtain ⟨h1, h2⟩ := ex_okI_of hmo (by intro z; cases z)
    split at h
    · cases h
      simp only [ex_okA, decide_eq_true_eq] at h2
      obtain ⟨rfl, h3⟩ := h2
      exact ⟨Or.inr (Or.inl ⟨h1, ⟨_, rfl⟩, h3⟩), rfl⟩
    · cases h
  · obtain ⟨h1, h2⟩ := ex_okI_of hmo (by intro z; cases z)
    split at h
    · cases h
      simp only [ex_okA, decide_eq_true_eq] at h2
      obtain ⟨rfl, h3⟩ := h2
      exact ⟨Or.inr (Or.inr ⟨h1, rfl, h3⟩), rfl⟩
    · cases h
  · cases h
def ex_ws (y : Nat) : List Jvm.Cond := Jvm.Cond.code (ex_nm y) (ex_by y) (ex_mL y) (ex_rt y) :: ex_gw
def ex_rm (y mc ms : Nat) : Room := { frames := ex_fr y, cells := mc, slots := ms, locals := ex_lo y }
def ex_Pc (D : va_G) (dA : Nat → ClassId) (B b : Nat) (scr : Cell) (A : List Value) (h : ex_Hp) : Array Value → State → Prop := fun v U => v = (A.map (ex_sv B b)).toArray ∧ ex_Rep D dA B b scr h U.heap ∧ ex_K D dA scr U
def ex_Qc (D : va_G) (dA : Nat → ClassId) (B b : Nat) (scr : Cell) (r : Option Value) (h' : ex_Hp) : Array Value → State → Outcome → State → Prop := fun _ st o t => o = .returned (r.map (ex_sv B b)) ∧ ex_Rep D dA B b scr h' t.heap ∧ va_F (fun q => B ≤ q) st t
theorem ex_mk_parts {y : Nat} (hy : y < 161) : Jvm.Cond.initialized (ex_nm y).cls ∈ ex_gw ∧ ((ex_nm y).cls ≠ "java/lang/invoke/MethodHandle" ∧ (ex_nm y).cls ≠ "java/lang/invoke/VarHandle") ∧ Jvm.plainName (ex_nm y).cls = true ∧ ex_na y ≤ ex_mL y ∧ (ex_nm y).cls = ex_o (ex_ow y) := by
  have h := ex_mk_all y hy
  unfold ex_mk at h
  simp only [Bool.and_eq_true, decide_eq_true_eq] at h
  obtain ⟨⟨⟨⟨⟨h1, h2⟩, h3⟩, h4⟩, h5⟩, -⟩ := h
  exact ⟨ex_gw_of h1, h2, h3, h4, h5⟩
theorem ex_mk0 {y : Nat} (hy : y < 161) (hk : ex_kd y = 0) : Jvm.Cond.static (ex_nm y) ∈ ex_gw ∧ (parseMethodDescriptor (ex_nm y).desc).map (fun d => d.parameters.length) = some (ex_na y) := by
  have h := ex_mk_all y hy
  unfold ex_mk at h
  rw [Bool.and_eq_true, hk] at h
  have h9 := h.2
  simp only [Bool.and_eq_true, decide_eq_true_eq] at h9
  exact ⟨ex_gw_of h9.1, h9.2⟩
theorem ex_mk1 {y : Nat} (hy : y < 161) (hk : ex_kd y = 1) : Jvm.Cond.instanceMethod (ex_nm y) ∈ ex_gw ∧ Jvm.Cond.selects (ex_nm y).cls (ex_nm y) (ex_nm y) ∈ ex_gw ∧ (parseMethodDescriptor (ex_nm y).desc).map (fun d => d.parameters.length + 1) = some (ex_na y) := by
  have h := ex_mk_all y hy
  unfold ex_mk at h
  rw [Bool.and_eq_true, hk] at h
  have h9 := h.2
  simp only [Bool.and_eq_true, decide_eq_true_eq] at h9
  exact ⟨ex_gw_of h9.1.1, ex_gw_of h9.1.2, h9.2⟩
theorem ex_mk2 {y : Nat} (hy : y < 161) (hk : ex_kd y = 2) : Jvm.Cond.instanceMethod (ex_nm y) ∈ ex_gw ∧ ((ex_nm y).name = "<init>" ∧ ex_rt y = none) ∧ (parseMethodDescriptor (ex_nm y).desc).map (fun d => d.parameters.length + 1) = some (ex_na y) := by
  have h := ex_mk_all y hy
  unfold ex_mk at h
  rw [Bool.and_eq_true, hk] at h
  have h9 := h.2
  simp only [Bool.and_eq_true, decide_eq_true_eq] at h9
  exact ⟨ex_gw_of h9.1.1, h9.1.2, h9.2⟩
theorem ex_entry {B b : Nat} {A : List Value} {n : Nat} (hA : A.length ≤ n) (hc : ∀ v ∈ A, v.category = 1) : ex_L B b (((A.map (ex_sv B b)).map Slot.val ++ List.replicate (n - (A.map (ex_sv B b)).length) Slot.unset).toArray) n (A ++ List.replicate (n - A.length) (.long 0)) := by
  have key : ∀ i : Nat, (((A.map (ex_sv B b)).map Slot.val ++ List.replicate (n - (A.map (ex_sv B b)).length) Slot.unset).toArray)[i]? = if i < A.length then (A[i]?).map (fun v => Slot.val (ex_sv B b v)) else if i < n then some Slot.unset else none := by
    intro i
    rw [List.getElem?_toArray]
    by_cases hi : i < A.length
    · rw [if_pos hi, List.getElem?_append_left (by simpa using hi)]
      simp only [List.map_map, List.getElem?_map]
      rfl
    · rw [if_neg hi, List.getElem?_append_right (by simpa using hi)]
      simp only [List.getElem?_replicate, List.length_map]
      by_cases h2 : i < n
      · rw [if_pos h2, if_pos (by omega)]
      · rw [if_neg h2, if_neg (by omega)]
  refine ⟨by simp; omega, ⟨fun i v hi hv => ?_, fun i hi => ?_⟩, by simp; omega, fun i v hi hv => ?_⟩
  · rw [key i] at hi
    split at hi
    · cases hg : A[i]? with
      | none => rw [hg] at hi; cases hi
      | some w =>
        rw [hg] at hi
        cases hi
        rw [ex_sv_cat, hc w (List.mem_of_getElem? hg)] at hv
        cases hv
    · split at hi <;> cases hi
  · rw [key i] at hi
    split at hi
    · cases hg : A[i]? with
      | none => rw [hg] at hi; cases hi
      | some w => rw [hg] at hi; cases hi
    · split at hi <;> cases hi
  · rw [key i]
    by_cases h1 : i < A.length
    · rw [if_pos h1]
      rw [List.getElem?_append_left h1] at hi
      rw [hi]
      rfl
    · rw [List.getElem?_append_right (by omega), List.getElem?_replicate] at hi
      split at hi
      · cases hi
        cases hv
      · cases hi
theorem ex_met {l : Launch} {D : va_G} {dA : Nat → ClassId} {B b : Nat} {scr : Cell} {y : Nat} (hy : y < 161) {A : List Value} {h h1 : ex_Hp} {r : Option Value} (hA : A.length = ex_na y) (hc : ∀ v ∈ A, v.category = 1) (hS : ex_Snd l D dA B b scr y 0 (ex_in y A) [] h r h1) : Met l (ex_nm y) (ex_ws y) (ex_rm y (h1.1 - h.1) (h1.2.1 - h.2.1)) (ex_Pc D dA B b scr A h) (ex_Qc D dA B b scr r h1) (h1.1 - h.1) (h1.2.1 - h.2.1) (fun q => B ≤ q) := by
  obtain ⟨p1, p2, p3, p4, p5⟩ := ex_mk_parts hy
  obtain ⟨m1, m2, hW⟩ := hS
  refine Met.ofW (cc := ex_by y) (maxL := ex_mL y) (ret := ex_rt y) p3 rfl ?_
  intro p e s m args below meth c s₁ Bd hml hv
  obtain ⟨rfl, hRep, hK⟩ := hv
  have hts := atoms_spec (ws := ex_ws y) Bd.pre
  have hown : s.vm.findClass (ex_nm y).cls = some m.cls := findClass_of_methodNamed Bd.named
  have hname : meth.name = (ex_nm y).name := (name_of_methodNamed Bd.named Bd.method).1
  have hlocks := Bd.notSynchronized
  rw [entry_eq m (A.map (ex_sv B b)) (fun v hv => by
    obtain ⟨w, hw, rfl⟩ := List.mem_map.mp hv
    rw [ex_sv_cat]
    exact hc w hw)]
  have hC : ex_C D dA scr y p (headSpec (ex_ws y) (ex_rm y (h1.1 - h.1) (h1.2.1 - h.2.1))).room s m (A.map (ex_sv B b)).toArray meth c :=
    ⟨Bd.exec, Bd.bytes, hml, by rw [← p5]; exact hown, fun w hw => hts w (List.mem_cons_of_mem _ hw), hK, fun z => hname.trans z, Bd.returns, hlocks, Nat.le_refl _, Nat.le_refl _⟩
  refine hW p e _ s m _ below meth c _ s.heap [] 0 0 (h1.1 - h.1) (h1.2.1 - h.2.1) _ hC hRep va_S.rf (ex_entry (by rw [hA]; exact p4) hc) (by omega) (by omega) (Nat.le_refl _) (Nat.le_refl _) ?_
  intro H' locs' ls' pc' hR' hS' hE
  have hret := Bd.returns
  rcases hE with ⟨hdg, x, rfl, ht⟩ | ⟨hdg, ⟨x, rfl⟩, ht⟩ | ⟨hdg, rfl, ht⟩
  · rcases ht with ht | ⟨ht, hx01⟩
    · exact W.iret (v := x) Bd.exec Bd.bytes (hret.trans ht) (fun t e1 hWm => ⟨rfl, by rw [e1]; exact hR', hS'.F e1⟩) hS'.2.2 hdg hlocks
    · exact W.zret (v := x) (ty := .boolean) Bd.exec Bd.bytes (hret.trans ht) (by rcases hx01 with rfl | rfl <;> rfl) (fun t e1 hWm => ⟨rfl, by rw [e1]; exact hR', hS'.F e1⟩) hS'.2.2 hdg hlocks
  · exact W.aret (v := .ref (ex_sh B b x)) (rt := .array .int) Bd.exec Bd.bytes (hret.trans ht) (Or.inr ⟨_, rfl⟩) (Or.inr ⟨_, rfl⟩) (fun t e1 hWm => ⟨rfl, by rw [e1]; exact hR', hS'.F e1⟩) hS'.2.2 hdg hlocks
  · exact W.vret Bd.exec Bd.bytes (hret.trans ht) (fun t e1 hWm => ⟨rfl, by rw [e1]; exact hR', hS'.F e1⟩) hS'.2.2 hdg hlocks
theorem ex_vwi_ok : ∀ o, o < 13 → ex_vwi.getD o 9 < 9 → (ex_T (ex_vwi.getD o 9)).1 = ex_o o := by decide +kernel
theorem ex_ow_lt {y : Nat} (hy : y < 161) : ex_ow y < 13 := by
  have : ∀ y, y < 161 → ex_ow y < 13 := by decide +kernel
  exact this y hy
theorem ex_recv1 {a : Nat} {A : List Value} {h : ex_Hp} (hk : ex_kd a = 1) (hc : ex_recv a A h = true) : ∃ (o : Nat) (As : List Value) (ci : Nat) (fs : List Value), A = .ref o :: As ∧ h.2.2 o = some (.inr (.inr (ci, fs))) ∧ ci = ex_vwi.getD (ex_ow a) 9 := by
  simp only [ex_recv, hk] at hc
  split at hc
  · split at hc
    · rename_i ho
      rw [decide_eq_true_eq] at hc
      exact ⟨_, _, _, _, rfl, ho, hc⟩
    · cases hc
  · cases hc
theorem ex_recv2 {a : Nat} {A : List Value} {h : ex_Hp} (hk : ex_kd a = 2) (hc : ex_recv a A h = true) : ∃ (o : Nat) (As : List Value), A = .ref o :: As := by
  simp only [ex_recv, hk] at hc
  split at hc
  · exact ⟨_, _, rfl⟩
  · cases hc
theorem ex_Pc_blind {D : va_G} {dA : Nat → ClassId} {B b : Nat} {scr : Cell} {A : List Value} {h : ex_Hp} : FrameBlind (ex_Pc D dA B b scr A h) := fun a U g mk q => ⟨q.1, q.2.1, ex_K.same (s := U) (U := U.calling g mk a) rfl q.2.2⟩
section EXU
variable {p : Program} {l : Launch} {e : Env} {R : Room} {s : State} {m : MethodId} {args : Array Value} {below : List Frame} {meth : Method} {c : Code} {H : Heap} {locs : List Loc} {cells slots : Nat} {Q : State → Prop}
variable {D : va_G} {dA : Nat → ClassId} {B b : Nat} {scr : Cell} {pc len a cN y : Nat} {v : Int32} {ins : Instr} {ls : Array Slot} {h h1 : ex_Hp} {L S : List Value} {r : Option Value}
/-- a call of one of the claim's own methods, told by the pure machine's run of it -/
theorem ex_s5 (hC : ex_C D dA scr y p R s m args meth c) (hR : ex_Rep D dA B b scr h H) (hL : ls.size = ex_mL y) (hdg : decode (ex_by y) pc = .ok (ins, len)) (hok : ex_okA y pc ins len a cN v = true) (hkd : ex_kind ins a = 5) (hc1 : cN ≤ S.length) (hc2 : ex_cat (S.drop cN) ≤ 8) (hc3 : (S.take cN).all (fun v => v.category == 1) = true) (hc4 : ex_recv a (S.take cN).reverse h = true)
    (hM : a < 161 → ex_na a = cN → Met l (ex_nm a) (ex_ws a) (ex_rm a (h1.1 - h.1) (h1.2.1 - h.2.1)) (ex_Pc D dA B b scr (S.take cN).reverse h) (ex_Qc D dA B b scr r h1) (h1.1 - h.1) (h1.2.1 - h.2.1) (fun q => B ≤ q)) (hf : cells + (h1.1 - h.1) ≤ R.cells ∧ slots + (h1.2.1 - h.2.1) ≤ R.slots) :
    len = 3 ∧ va_Run p l e R s m args below meth c H locs cells slots (h1.1 - h.1) (h1.2.1 - h.2.1) (F0 m pc ls (S.map (ex_sv B b))) ((S.drop cN).map (ex_sv B b)) (ex_Qc D dA B b scr r h1 (((S.take cN).reverse.map (ex_sv B b)).toArray)) (fun q => B ≤ q) := by
  obtain ⟨hx, hb, hml, hown, hts, hK, hnm, hrt, hlk, hfr, hlo⟩ := hC
  have ha : a < 1000 := by
    rcases Nat.lt_or_ge a 1000 with z | z
    · exact z
    · exfalso
      unfold ex_kind at hkd
      split at hkd <;> first | (cases hkd; done) | (rw [if_neg (by omega)] at hkd; cases hkd)
  have hfix : CallFix p m c (ex_by y) (ex_mL y) s args ex_gw (ex_o (ex_ow y)) := ⟨hx, hb, hml, hown, hts⟩
  have hW8 : 2 * (F0 m pc ls (S.map (ex_sv B b))).monitorRoom + (((S.drop cN).map (ex_sv B b)).map fun v => v.category).sum ≤ 8 := by
    rw [ex_sv_sum]
    show 2 * 0 + _ ≤ 8
    omega
  have body : ex_okC y a cN = true → a < 161 ∧ ex_na a = cN ∧ ex_fr a + 1 ≤ R.frames ∧ 8 + (ex_mL a + 11) + ex_lo a ≤ R.locals := fun z => by
    unfold ex_okC at z
    simp only [Bool.and_eq_true, decide_eq_true_eq] at z
    obtain ⟨⟨⟨z1, z2⟩, z3⟩, z4⟩ := z
    exact ⟨z1, z2.symm, by omega, by omega⟩
  have code : a < 161 → Jvm.Cond.code (ex_nm a) (ex_by a) (ex_mL a) (ex_rt a) ∈ ex_gw := fun z => List.mem_filter.mpr (ex_code_in a (by omega))
  have words : a < 161 → ∀ w ∈ ex_ws a, ∀ (a' : Array Value) (U : State), s.WarmedH U.vm → w.before a' U = true := fun z w hw a' U hWm => by
    have hg : w ∈ ex_gw := by
      rcases List.mem_cons.mp hw with rfl | hw
      · exact code z
      · exact hw
    exact word_at hWm (ex_gw_good hg) (hts w hg)
  have hPre : ∀ U : State, U.heap = H → s.WarmedH U.vm → ex_Pc D dA B b scr (S.take cN).reverse h ((S.take cN).reverse.map (ex_sv B b)).toArray U := fun U hU hWm => ⟨rfl, by rw [hU]; exact hR, hK.moved hWm⟩
  have hsplit : S.map (ex_sv B b) = ((S.take cN).reverse.map (ex_sv B b)).reverse ++ (S.drop cN).map (ex_sv B b) := by
    rw [← List.map_reverse, List.reverse_reverse, ← List.map_append, List.take_append_drop]
  have hmn : ex_mn a = ex_nm a := by unfold ex_mn; rw [if_pos ha]
  unfold ex_kind at hkd
  split at hkd <;> (try (cases hkd; done))
  · -- a constructor
    simp only [ex_okA, Bool.and_eq_true, if_pos ha, decide_eq_true_eq] at hok
    obtain ⟨⟨rfl, h3⟩, h4, h5⟩ := hok
    obtain ⟨b1, b2, b3, b4⟩ := body h4
    obtain ⟨p1, p2, p3, p4, p5⟩ := ex_mk_parts b1
    obtain ⟨q1, q2, q3⟩ := ex_mk2 b1 h5
    have hlenA : (S.take cN).reverse.length = cN := by rw [List.length_reverse, List.length_take]; omega
    obtain ⟨o, As, hAr⟩ := ex_recv2 h5 hc4
    rw [hAr] at hlenA
    have hn : ∀ sig, parseMethodDescriptor (ex_nm a).desc = some sig → As.length = sig.parameters.length := fun sig hs => by
      rw [hs, b2] at q3
      simp only [Option.map_some, Option.some.injEq] at q3
      simp only [List.length_cons] at hlenA
      omega
    have hM' := hM b1 b2
    rw [hAr] at hM' hPre hsplit ⊢
    have hst : (F0 m pc ls (S.map (ex_sv B b))).stack = (As.map (ex_sv B b)).reverse ++ .ref (ex_sh B b o) :: (S.drop cN).map (ex_sv B b) := by
      show S.map (ex_sv B b) = _
      rw [hsplit]
      simp [ex_sv]
    have hcd := hts _ (code b1)
    have hmem : Jvm.Cond.code (ex_nm a) (ex_by a) (ex_mL a) (ex_rt a) ∈ ex_ws a := List.mem_cons_self
    rw [q2.2] at hcd hmem
    refine ⟨rfl, ?_⟩
    rcases ex_mlw h3 with h6 | h6
    · rw [hmn] at h6
      exact va_runI (n := As.length) (bytes := ex_by a) (maxL := ex_mL a) hfix hM' ⟨⟨rfl, rfl, b3, b4, words b1, hmem, hcd, hts _ p1, p2, hn, hts _ h6⟩, q2.1, hts _ q1⟩ ⟨ex_Pc_blind, hPre⟩ rfl (by simp) hL hst hW8 hdg hf
    · rw [hmn] at h6
      exact va_runIN (n := As.length) (bytes := ex_by a) (maxL := ex_mL a) (host := RX8) hfix hM' ⟨⟨⟨rfl, rfl, b3, b4, words b1, hmem⟩, hcd, hts _ p1, p2, hn, va_Nw.use rfl (hK.2.2.2.2 _ h6)⟩, q2.1, hts _ q1⟩ ⟨ex_Pc_blind, hPre⟩ rfl (by simp) hL hst hW8 hdg hf
  · -- a static method
    simp only [ex_okA, Bool.and_eq_true, if_pos ha, decide_eq_true_eq] at hok
    obtain ⟨⟨rfl, h3⟩, h4, h5⟩ := hok
    obtain ⟨b1, b2, b3, b4⟩ := body h4
    obtain ⟨p1, p2, p3, p4, p5⟩ := ex_mk_parts b1
    obtain ⟨q1, q3⟩ := ex_mk0 b1 h5
    have hlenA : (S.take cN).reverse.length = cN := by rw [List.length_reverse, List.length_take]; omega
    have hn : ∀ sig, parseMethodDescriptor (ex_nm a).desc = some sig → (S.take cN).reverse.length = sig.parameters.length := fun sig hs => by
      rw [hs, b2] at q3
      simp only [Option.map_some, Option.some.injEq] at q3
      omega
    refine ⟨rfl, ?_⟩
    rcases ex_mlw h3 with h6 | h6
    · rw [hmn] at h6
      exact va_runS (n := (S.take cN).reverse.length) (bytes := ex_by a) (maxL := ex_mL a) (ret := ex_rt a) hfix (hM b1 b2) ⟨⟨rfl, rfl, b3, b4, words b1, List.mem_cons_self, hts _ (code b1), hts _ p1, p2, hn, hts _ h6⟩, hts _ q1⟩ ⟨ex_Pc_blind, hPre⟩ rfl (by simp) hL hsplit hW8 hdg hf
    · rw [hmn] at h6
      exact va_runSN (n := (S.take cN).reverse.length) (bytes := ex_by a) (maxL := ex_mL a) (ret := ex_rt a) (host := RX8) hfix (hM b1 b2) ⟨⟨⟨rfl, rfl, b3, b4, words b1, List.mem_cons_self⟩, hts _ (code b1), hts _ p1, p2, hn, va_Nw.use rfl (hK.2.2.2.2 _ h6)⟩, hts _ q1, trivial⟩ ⟨ex_Pc_blind, hPre⟩ rfl (by simp) hL hsplit hW8 hdg hf
  · -- a method of an object
    simp only [ex_okA, Bool.and_eq_true, if_pos ha, decide_eq_true_eq] at hok
    obtain ⟨⟨rfl, h3⟩, h4, h5⟩ := hok
    obtain ⟨b1, b2, b3, b4⟩ := body h4
    obtain ⟨p1, p2, p3, p4, p5⟩ := ex_mk_parts b1
    obtain ⟨q1, q2, q3⟩ := ex_mk1 b1 h5
    have hlenA : (S.take cN).reverse.length = cN := by rw [List.length_reverse, List.length_take]; omega
    obtain ⟨o, As, ci, fs, hAr, ho, hci9⟩ := ex_recv1 h5 hc4
    rw [hAr] at hlenA
    have hn : ∀ sig, parseMethodDescriptor (ex_nm a).desc = some sig → As.length = sig.parameters.length := fun sig hs => by
      rw [hs, b2] at q3
      simp only [Option.map_some, Option.some.injEq] at q3
      simp only [List.length_cons] at hlenA
      omega
    have hM' := hM b1 b2
    rw [hAr] at hM' hPre hsplit ⊢
    have hst : (F0 m pc ls (S.map (ex_sv B b))).stack = (As.map (ex_sv B b)).reverse ++ .ref (ex_sh B b o) :: (S.drop cN).map (ex_sv B b) := by
      show S.map (ex_sv B b) = _
      rw [hsplit]
      simp [ex_sv]
    have hrecv : ∃ cellB : Cell, H[ex_sh B b o]? = some cellB ∧ cellB.vm.isStatics = false ∧ s.vm.findClass (ex_nm a).cls = some cellB.cls := by
      rcases hR.2.2.2.2 o _ ho with ⟨-, n, f, hcc, -⟩ | ⟨g1, g2, g3, g4⟩
      · cases hcc
      · have hci : ci < 9 := g3
        have e1 : (ex_T ci).1 = (ex_nm a).cls := by
          rw [hci9, ex_vwi_ok _ (ex_ow_lt b1) (by rw [← hci9]; exact hci)]
          exact p5.symm
        have := va_recv hK.1 (ex_one g4) (ex_vw hci) (q0 := 0) rfl
        rw [e1] at this
        exact this
    refine ⟨rfl, ?_⟩
    rcases ex_mlw h3 with h6 | h6
    · rw [hmn] at h6
      exact va_runV (n := As.length) (bytes := ex_by a) (maxL := ex_mL a) (ret := ex_rt a) (C := (ex_nm a).cls) hfix hM' ⟨⟨rfl, rfl, b3, b4, words b1, List.mem_cons_self, hts _ (code b1), hts _ p1, p2, hn, hts _ h6⟩, hts _ q1, hts _ q2⟩ ⟨ex_Pc_blind, hrecv, hPre⟩ rfl (by simp) hL hst hW8 hdg hf
    · rw [hmn] at h6
      exact va_runVN (n := As.length) (bytes := ex_by a) (maxL := ex_mL a) (ret := ex_rt a) (C := (ex_nm a).cls) (host := RX8) hfix hM' ⟨⟨⟨rfl, rfl, b3, b4, words b1, List.mem_cons_self⟩, hts _ (code b1), hts _ p1, p2, hn, va_Nw.use rfl (hK.2.2.2.2 _ h6)⟩, hts _ q1, hts _ q2⟩ ⟨ex_Pc_blind, hrecv, hPre⟩ rfl (by simp) hL hst hW8 hdg hf
end EXU
