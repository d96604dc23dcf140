/-! AN ARRAY OF ROWS IS MADE (6.5 multianewarray, two dimensions of int): walked over the model's own definition. -/
/-- the outer array behind i rows -/
def mq_out (cA : ClassId) (N a i : Nat) : Cell := arrV cA N (fun j => va_rf (if j < i then some (a + 1 + j) else none))
/-- the state behind i rows: the outer array at the old end, a row behind another -/
def mq_st (T : State) (cA cI : ClassId) (N K : Nat) : Nat → State
  | 0 => T.pushCell (mq_out cA N T.heap.size 0)
  | i + 1 => ((mq_st T cA cI N K i).pushCell (arrV cI K (fun _ => .int 0))).setCell T.heap.size (mq_out cA N T.heap.size (i + 1))
theorem mq_out0 (cA : ClassId) (N a : Nat) : ({ cls := cA, slots := Array.replicate N .null, vm := .none } : Cell) = mq_out cA N a 0 := by
  rw [arrV_new]
  refine congrArg (arrV cA N) (funext fun j => ?_)
  simp [va_rf]
theorem mq_outS (cA : ClassId) (N a i : Nat) : (mq_out cA N a i).setSlot i (.ref (a + 1 + i)) = mq_out cA N a (i + 1) := by
  unfold mq_out
  rw [arrV_store]
  refine congrArg (arrV cA N) (funext fun j => ?_)
  rcases Nat.lt_trichotomy j i with h | h | h
  · simp [updV, h, Nat.ne_of_lt h, Nat.lt_succ_of_lt h]
  · subst h
    simp [updV, va_rf]
  · simp [updV, Nat.ne_of_gt h, show ¬ j < i by omega, show ¬ j < i + 1 by omega]
section MQ
variable {T : State} {cA cI : ClassId} {N K : Nat}
theorem mq_size : ∀ i : Nat, (mq_st T cA cI N K i).heap.size = T.heap.size + 1 + i
  | 0 => by simp [mq_st]
  | i + 1 => by simp [mq_st, mq_size i]; omega
theorem mq_vm : ∀ i : Nat, (mq_st T cA cI N K i).vm = T.vm
  | 0 => rfl
  | i + 1 => mq_vm i
theorem mq_top : ∀ i : Nat, (mq_st T cA cI N K i).topJava? = T.topJava?
  | 0 => rfl
  | i + 1 => mq_top i
theorem mq_used : ∀ i : Nat, (mq_st T cA cI N K i).slotsUsed = T.slotsUsed + N + i * K
  | 0 => by simp [mq_st, mq_out, arrV_size]
  | i + 1 => by simp [mq_st, mq_used i, arrV_size, Nat.succ_mul]; omega
theorem mq_old {x : Nat} (hx : x < T.heap.size) : ∀ i : Nat, (mq_st T cA cI N K i).heap[x]? = T.heap[x]?
  | 0 => by simp [mq_st, Array.getElem?_push, Nat.ne_of_lt hx]
  | i + 1 => by
    have h := mq_size (T := T) (cA := cA) (cI := cI) (N := N) (K := K) i
    simp [mq_st, Array.getElem?_setIfInBounds, Array.getElem?_push, Nat.ne_of_gt hx, show x ≠ (mq_st T cA cI N K i).heap.size by omega, mq_old hx i]
theorem mq_at : ∀ i : Nat, (mq_st T cA cI N K i).heap[T.heap.size]? = some (mq_out cA N T.heap.size i)
  | 0 => by simp [mq_st]
  | i + 1 => by
    have h := mq_size (T := T) (cA := cA) (cI := cI) (N := N) (K := K) i
    simp [mq_st, Array.getElem?_setIfInBounds, show T.heap.size < (mq_st T cA cI N K i).heap.size + 1 by omega]
theorem mq_row : ∀ (i j : Nat), j < i → (mq_st T cA cI N K i).heap[T.heap.size + 1 + j]? = some (arrV cI K (fun _ => .int 0))
  | 0, j, hj => absurd hj (Nat.not_lt_zero j)
  | i + 1, j, hj => by
    have h := mq_size (T := T) (cA := cA) (cI := cI) (N := N) (K := K) i
    have hne : T.heap.size ≠ T.heap.size + 1 + j := by omega
    show (((mq_st T cA cI N K i).heap.push _).setIfInBounds T.heap.size _)[T.heap.size + 1 + j]? = _
    rw [Array.getElem?_setIfInBounds, if_neg hne, Array.getElem?_push, h]
    by_cases e : j = i
    · subst e
      rw [if_pos rfl]
    · rw [if_neg (by omega)]
      exact mq_row i j (by omega)
end MQ
section MQS
variable {p : Program} {l : Launch} {e : Env} {R : Room} {s : State} {m : MethodId} {args : Array Value} {below : List Frame} {meth : Method} {c : Code} {T : State} {locs : List Loc} {cells slots : Nat}
theorem mq_stand (X : Jvm.Stand p l e R s m args below meth c T locs cells slots) (cA cI : ClassId) (N K : Nat) : ∀ i : Nat, Jvm.Stand p l e R s m args below meth c (mq_st T cA cI N K i) locs (cells + 1 + i) (slots + N + i * K)
  | 0 => by
    have h := X.pushed (mq_out cA N T.heap.size 0)
    unfold mq_out at h
    rw [arrV_size] at h
    simpa [mq_st, mq_out] using h
  | i + 1 => by
    have h := (mq_stand X cA cI N K i).pushed (arrV cI K (fun _ => .int 0))
    rw [arrV_size] at h
    have hz := mq_size (T := T) (cA := cA) (cI := cI) (N := N) (K := K) i
    have hc : ((mq_st T cA cI N K i).pushCell (arrV cI K (fun _ => .int 0))).heap[T.heap.size]? = some (mq_out cA N T.heap.size i) := by
      show ((mq_st T cA cI N K i).heap.push _)[T.heap.size]? = _
      rw [Array.getElem?_push, if_neg (by omega)]
      exact mq_at i
    have h2 := h.stored hc i (.ref (T.heap.size + 1 + i))
    rw [mq_outS] at h2
    have h3 := h2.dropFresh (fun x hx => by
      rw [List.mem_singleton.mp hx]
      exact X.heapGrown)
    have e1 : cells + 1 + (i + 1) = cells + 1 + i + 1 := rfl
    have e2 : slots + N + (i + 1) * K = slots + N + i * K + K := by rw [Nat.succ_mul]; omega
    rw [e1, e2]
    exact h3
end MQS
section MQW
variable {E : CtlPost} {e : Env} {d : Bool} {acts : List Action} {S : State}
/-- one array is made -/
theorem mq_new {cl : ClassId} {k : Class} {z : ClassId} {ty : FieldType} {n : Nat} {v : Value} (hk : S.vm.classes[cl]? = some k) (hkind : k.kind = .array z ty) (hv : fits ty v = true) (hl : ¬ n > e.platform.arrayLengthLimit) (hh : ¬ n * componentBytes ty > e.platform.maxHeapBytes) (h1 : S.heap.size < e.platform.maxCells) (h2 : S.slotsUsed + n ≤ e.platform.maxSlots) {Q : Addr → Pre}
    (hq : ∀ acts', Q S.heap.size d acts' (S.pushCell { cls := cl, slots := Array.replicate n v, vm := .none })) : wp (Jvm.newArray cl n v) Q E e d acts S := by
  have hf : ∀ i w, (Array.replicate n v)[i]? = some w → S.fitsSlot cl .none i w = true := by
    intro i w hw
    rw [Array.getElem?_replicate] at hw
    split at hw
    · cases hw
      simp [State.fitsSlot, State.slotType?, hk, hkind, hv]
    · cases hw
  have h3 : ¬ n > e.platform.maxSlots := by omega
  simp only [Jvm.newArray, Jvm.arrayFits, wp_bind', W.ask, W.ite, hl, if_false, wp_pure', W.theClass, hk, Option.some.injEq, exists_eq_left', hkind, hh, h3, W.alloc, Array.size_replicate]
  exact ⟨h1, h2, hf, hq _⟩
/-- a row is made -/
theorem mq_inner {cI z : ClassId} {kI : Class} {k : Int32} (hk : S.vm.classes[cI]? = some kI) (hkind : kI.kind = .array z .int) (h0 : ¬ k < 0) (hl : ¬ k.toNatClampNeg > e.platform.arrayLengthLimit) (hh : ¬ k.toNatClampNeg * componentBytes .int > e.platform.maxHeapBytes) (h1 : S.heap.size < e.platform.maxCells) (h2 : S.slotsUsed + k.toNatClampNeg ≤ e.platform.maxSlots) {Q : Addr → Pre}
    (hq : ∀ acts', Q S.heap.size d acts' (S.pushCell (arrV cI k.toNatClampNeg (fun _ => .int 0)))) : wp (Jvm.Op.multianewarray.make cI [k]) Q E e d acts S := by
  simp only [Jvm.Op.multianewarray.make, wp_bind', W.ite, h0, if_false, wp_pure', W.theClass, hk, Option.some.injEq, exists_eq_left', hkind]
  refine mq_new hk hkind rfl hl hh h1 h2 fun acts' => ?_
  have h := hq acts'
  rw [← arrV_new] at h
  exact h
variable {T : State} {f : JFrame}
/-- the outer array and its rows -/
theorem mq_make {cA cI z : ClassId} {kA kI : Class} {n k : Int32} (hkA : T.vm.classes[cA]? = some kA) (hkindA : kA.kind = .array cI (.array .int)) (hkI : T.vm.classes[cI]? = some kI) (hkindI : kI.kind = .array z .int) (hn : ¬ n < 0) (hk : ¬ k < 0) (hl1 : ¬ n.toNatClampNeg > e.platform.arrayLengthLimit) (hl2 : ¬ k.toNatClampNeg > e.platform.arrayLengthLimit) (hh1 : ¬ n.toNatClampNeg * componentBytes (.array .int) > e.platform.maxHeapBytes) (hh2 : ¬ k.toNatClampNeg * componentBytes .int > e.platform.maxHeapBytes)
    (hc : T.heap.size + (1 + n.toNatClampNeg) ≤ e.platform.maxCells) (hz : T.slotsUsed + (n.toNatClampNeg + n.toNatClampNeg * k.toNatClampNeg) ≤ e.platform.maxSlots) {Q : Addr → Pre} (hq : ∀ d' acts', Q T.heap.size d' acts' ((mq_st T cA cI n.toNatClampNeg k.toNatClampNeg n.toNatClampNeg).setTop f)) : wp (Jvm.Op.multianewarray.make cA [n, k]) Q E e d acts (T.setTop f) := by
  have hkA' : (T.setTop f).vm.classes[cA]? = some kA := hkA
  have hfind : List.find? (fun x : Int32 => decide (x < 0)) [k] = none := by simp [List.find?, hk]
  rw [Jvm.Op.multianewarray.make]
  simp only [wp_bind', W.ite, hn, if_false, wp_pure', W.theClass, hkA', Option.some.injEq, exists_eq_left', hkindA]
  refine mq_new hkA' hkindA rfl hl1 hh1 (by show T.heap.size < _; omega) (by show T.slotsUsed + _ ≤ _; omega) fun acts1 => ?_
  generalize hN : n.toNatClampNeg = N at hl1 hh1 hc hz hq ⊢
  generalize hKK : k.toNatClampNeg = K at hl2 hh2 hz hq ⊢
  simp only [hfind, wp_bind', wp_pure', ite_self]
  rw [mq_out0 cA N T.heap.size]
  rw [Std.Legacy.Range.forIn_eq_forIn_range']
  refine wp_forIn_inv (fun rest S' => ∃ i : Nat, i ≤ N ∧ rest = List.range' i (N - i) ∧ S' = (mq_st T cA cI N K i).setTop f) _ _ ⟨0, Nat.zero_le N, by simp [Std.Legacy.Range.size], rfl⟩ ?_ ?_
  · rintro x rest S' d' acts' Q' ⟨i, hi, hr, rfl⟩ hQ
    obtain ⟨q, hq9⟩ : ∃ q : Nat, N - i = q + 1 := by
      cases h : N - i with
      | zero => rw [h] at hr; cases hr
      | succ q => exact ⟨q, rfl⟩
    rw [hq9, List.range'_succ] at hr
    obtain ⟨rfl, rfl⟩ := List.cons.inj hr
    have hs : ((mq_st T cA cI N K x).setTop f).heap.size = T.heap.size + 1 + x := mq_size x
    have hu : ((mq_st T cA cI N K x).setTop f).slotsUsed = T.slotsUsed + N + x * K := mq_used x
    have hv : ((mq_st T cA cI N K x).setTop f).vm = T.vm := mq_vm x
    have hle : (x + 1) * K ≤ N * K := Nat.mul_le_mul_right K (by omega)
    rw [Nat.succ_mul] at hle
    simp only [wp_bind']
    refine mq_inner (by rw [hv]; exact hkI) hkindI hk (by rw [hKK]; exact hl2) (by rw [hKK]; exact hh2) (by rw [hs]; omega) (by rw [hu, hKK]; omega) fun acts2 => ?_
    rw [hKK, hs]
    simp only [wp_bind', W.writeLoc, wp_pure']
    have hat : (mq_st T cA cI N K x).heap[T.heap.size]? = some (mq_out cA N T.heap.size x) := mq_at x
    refine ⟨mq_out cA N T.heap.size x, ?_, (fun h => by cases h), ?_, ?_, ?_⟩
    · show ((mq_st T cA cI N K x).heap.push _)[T.heap.size]? = _
      rw [Array.getElem?_push, if_neg (by have := mq_size (T := T) (cA := cA) (cI := cI) (N := N) (K := K) x; omega)]
      exact hat
    · show x < (arrV cA N _).slots.size
      rw [arrV_size]
      omega
    · show (mq_st T cA cI N K x).fitsSlot cA .none x (.ref _) = true
      have hkA2 : (mq_st T cA cI N K x).vm.classes[cA]? = some kA := by rw [mq_vm]; exact hkA
      simp [State.fitsSlot, State.slotType?, hkA2, hkindA]
      rfl
    · refine hQ _ _ _ ⟨x + 1, by omega, by rw [show N - (x + 1) = q by omega], ?_⟩
      rw [mq_outS]
      rfl
  · rintro S' d' acts' ⟨i, hi, hr, rfl⟩
    have e1 : i = N := by
      cases h : N - i with
      | zero => omega
      | succ q => rw [h, List.range'_succ] at hr; cases hr
    subst e1
    exact hq d' acts'
/-- the instruction, its class linked -/
theorem mq_sem {cA cI z : ClassId} {kA kI : Class} {n k : Int32} {index : Nat} {rest : List Value} (hs : T.topJava?.isSome) (hr : T.vm.classReady f.method.cls index cA) (hstack : f.stack = .int k :: .int n :: rest) (hkA : T.vm.classes[cA]? = some kA) (hkindA : kA.kind = .array cI (.array .int)) (hkI : T.vm.classes[cI]? = some kI) (hkindI : kI.kind = .array z .int) (hn : ¬ n < 0) (hk : ¬ k < 0) (hl1 : ¬ n.toNatClampNeg > e.platform.arrayLengthLimit) (hl2 : ¬ k.toNatClampNeg > e.platform.arrayLengthLimit) (hh1 : ¬ n.toNatClampNeg * componentBytes (.array .int) > e.platform.maxHeapBytes) (hh2 : ¬ k.toNatClampNeg * componentBytes .int > e.platform.maxHeapBytes)
    (hc : T.heap.size + (1 + n.toNatClampNeg) ≤ e.platform.maxCells) (hz : T.slotsUsed + (n.toNatClampNeg + n.toNatClampNeg * k.toNatClampNeg) ≤ e.platform.maxSlots) {Q : Unit → Pre} (hq : ∀ d' acts', Q () d' acts' ((mq_st T cA cI n.toNatClampNeg k.toNatClampNeg n.toNatClampNeg).setTop { f with stack := .ref T.heap.size :: rest })) : wp (Jvm.Op.multianewarray.sem index 2) Q E e d acts (T.setTop f) := by
  have hp := fun (Q' : List Value → Pre) (d' : Bool) (acts' : List Action) => Jvm.Op.popN_top (E := E) (e := e) (d := d') (acts := acts') (Q := Q') (f := f) hs (args := [.int n, .int k]) (rest := rest) hstack
  simp only [List.length_cons, List.length_nil, Nat.zero_add, Nat.reduceAdd] at hp
  simp only [Jvm.Op.multianewarray.sem, wp_bind', W.resolveClassAt_ready (State.method?_setTop f hs) hr, hp, List.mapM_cons, List.mapM_nil, wp_pure']
  refine mq_make hkA hkindA hkI hkindI hn hk hl1 hl2 hh1 hh2 hc hz fun d' acts' => ?_
  simp only [wp_bind', W.mark, W.pushRef]
  have ht : (mq_st T cA cI n.toNatClampNeg k.toNatClampNeg n.toNatClampNeg).topJava?.isSome := by rw [mq_top]; exact hs
  refine ⟨_, State.topJava?_setTop' _ ht, ?_⟩
  rw [State.setTop_setTop]
  exact hq _ _
end MQW
section MQX
variable {p : Program} {l : Launch} {e : Env} {R : Room} {s : State} {m : MethodId} {args : Array Value} {below : List Frame} {meth : Method} {c : Code} {T : State} {locs : List Loc} {cells slots : Nat}
/-- the step in a walk -/
theorem mq_step (X : Jvm.Stand p l e R s m args below meth c T locs cells slots) (hx : p.tables.exec = Jvm.exec) {own : String} {index : Nat} (hown : s.vm.findClass own = some m.cls) (hcl : (Jvm.Cond.classLink own index "[[I").before args s = true) (hover : (Jvm.Cond.arrayOver (.array .int)).before #[] s = true) (harr : (Jvm.Cond.arrayClass .int).before args s = true) {g : JFrame} (hg : g.method = m) (hdg : decode c.code g.pc = .ok (.multianewarray index 2, 4)) {n k : Int32} {rest : List Value} (hstack : g.stack = .int k :: .int n :: rest) (hn : ¬ n < 0) (hk : ¬ k < 0) (hn2 : n.toNatClampNeg ≤ 100000) (hk2 : k.toNatClampNeg ≤ 100000)
    (hcells : cells + (1 + n.toNatClampNeg) ≤ R.cells) (hslots : slots + (n.toNatClampNeg + n.toNatClampNeg * k.toNatClampNeg) ≤ R.slots) :
    ∃ (vm₁ : Vm) (cA cI : ClassId), s.vm.findClass "[[I" = some cA ∧ s.vm.findClass "[I" = some cI ∧ Jvm.Stand p l e R s m args below meth c (mq_st (T.setVm vm₁) cA cI n.toNatClampNeg k.toNatClampNeg n.toNatClampNeg) locs (cells + 1 + n.toNatClampNeg) (slots + n.toNatClampNeg + n.toNatClampNeg * k.toNatClampNeg) ∧
      ∀ target, Steps p.tables e below ((mq_st (T.setVm vm₁) cA cI n.toNatClampNeg k.toNatClampNeg n.toNatClampNeg).setTop { g with pc := g.pc + 4, stack := .ref T.heap.size :: rest }) target → Steps p.tables e below (T.setTop g) target := by
  subst hg
  have hpl : e.platform.magicAccessors = ({} : Platform).magicAccessors := by rw [X.admits.platform]
  obtain ⟨cI, cA, kA, f1, -, f3, f4, f5⟩ := arrayOverA_spec hover
  obtain ⟨cI', kI, z, q1, q2, q3⟩ := Cond.arrayClass_spec harr
  cases Option.some.inj (q1.symm.trans f1 : some cI' = some cI)
  obtain ⟨cA', w1, w2⟩ := Cond.classLink_spec hown hcl e.platform hpl
  cases Option.some.inj (w1.symm.trans f5 : some cA' = some cA)
  obtain ⟨hg₁, hwarm₁, hready₁⟩ := State.classEntry (e := e) X.warmed w2
  generalize T.vm.noted g.method.cls index (.cls cA) = vm₁ at hg₁ hwarm₁ hready₁
  have hal : s.vm.Alike vm₁ := hwarm₁.alike
  obtain ⟨kA₁, hkA₁, eA⟩ := hal.2.2 _ _ f3
  obtain ⟨kI₁, hkI₁, eI⟩ := hal.2.2 _ _ q2
  obtain ⟨hr1, hr2⟩ := X.roomAbove hcells hslots
  have hlim : ∀ q : Nat, q ≤ 100000 → ¬ q > e.platform.arrayLengthLimit := fun q h => by
    rw [Launch.admits_arrayLengthLimit X.admits]
    omega
  have hhp : ∀ q : Nat, q ≤ 100000 → ¬ q * 4 > e.platform.maxHeapBytes := fun q h => by
    rw [Launch.admits_maxHeapBytes X.admits]
    omega
  refine ⟨vm₁, cA, cI, f5, f1, mq_stand (X.noted hwarm₁) cA cI _ _ _, fun target hrest => ?_⟩
  refine Steps.instr (c := _) (by simpa using X.here) ?_
  rw [hdg]
  simp only [wpRun, hx, exec]
  have hcold : ∀ Q' : Unit → Pre, wp (Jvm.Op.multianewarray.sem index 2) Q' (fun c acts s' => ∀ (acts : List Action), Steps p.tables e below (afterInstr e 4 (Res.ctl c s' acts)).fst target) e false [] (T.setTop g) ↔ wp (Jvm.Op.multianewarray.sem index 2) Q' (fun c acts s' => ∀ (acts : List Action), Steps p.tables e below (afterInstr e 4 (Res.ctl c s' acts)).fst target) e false [] ((T.setVm vm₁).setTop g) := fun Q' => by
    simp only [Jvm.Op.multianewarray.sem, wp_bind']
    exact W.resolveClassAt_transfer (s := T.setTop g) (State.method?_setTop g X.here.top) hg₁ hready₁
  rw [hcold]
  refine mq_sem (T := T.setVm vm₁) (f := g) X.here.top hready₁ hstack hkA₁ (by rw [eA]; exact f4) hkI₁ (by rw [eI]; exact q3) hn hk (hlim _ hn2) (hlim _ hk2) (hhp _ hn2) (hhp _ hk2) hr1 hr2 fun d' acts' acts2 => ?_
  rw [afterInstr_ok]
  exact hrest
end MQX
