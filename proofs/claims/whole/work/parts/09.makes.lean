/-! THE MACHINE'S MAKINGS, as the pure machine has them. -/
theorem ex_dflV (B b : Nat) {ci k : Nat} (hk : k < ex_nf ci) : defaultValue (ex_ty ci k) = vp_V ((ex_dfl ci).map (ex_sv B b)) k := by
  have e : ∀ ty : FieldType, ex_sv B b (defaultValue ty) = defaultValue ty := fun ty => by cases ty <;> rfl
  simp [vp_V, ex_dfl, List.getD_eq_getElem?_getD, hk, e]
theorem ex_new2_rep {D : va_G} {dA : Nat → ClassId} {B b : Nat} {scr : Cell} {h : ex_Hp} {H H' : Heap} (hR : ex_Rep D dA B b scr h H) {N K : Nat} (hz : H'.size = H.size + 1 + N) (oq : ∀ q : Nat, q < H.size → H'[q]? = H[q]?) (ho : H'[H.size]? = some (arrV (dA 2) N (fun i => va_rf (if i < N then some (H.size + 1 + i) else none)))) (hi : ∀ j : Nat, j < N → H'[H.size + 1 + j]? = some (arrV (dA 0) K (fun _ => .int 0))) : ex_Rep D dA B b scr (ex_new2 h N K) H' := by
  have ht := ex_top hR
  obtain ⟨r1, r2, r3, r4, r5⟩ := hR
  refine ⟨by show 1 ≤ h.1 + 1 + N; omega, by show H'.size + 1 = B + (h.1 + 1 + N); omega, r3, by rw [oq b (by omega)]; exact r4, fun a' c' hc => ?_⟩
  simp only [ex_new2] at hc
  by_cases e : a' = h.1
  · subst e
    rw [if_pos rfl] at hc
    cases hc
    refine Or.inr ⟨r1, by show h.1 < h.1 + 1 + N; omega, Or.inl rfl, ?_⟩
    show H'[ex_sh B b h.1]? = some (vp_cell _ _)
    rw [ht, ho, vp_cell_q]
    congr 2
    funext i
    dsimp only
    by_cases q : i < N
    · rw [if_pos q, if_pos q]
      show va_rf (some (H.size + 1 + i)) = va_rf (some (ex_sh B b (h.1 + 1 + i)))
      congr 2
      unfold ex_sh
      rw [if_neg (by omega)]
      omega
    · rw [if_neg q, if_neg q]
      rfl
  · rw [if_neg e] at hc
    by_cases e2 : h.1 < a' ∧ a' < h.1 + 1 + N
    · rw [if_pos e2] at hc
      cases hc
      refine Or.inr ⟨by omega, e2.2, Or.inl rfl, ?_⟩
      show H'[ex_sh B b a']? = some (vp_cell _ _)
      rw [vp_cell_i]
      have e3 : ex_sh B b a' = H.size + 1 + (a' - h.1 - 1) := by
        unfold ex_sh
        rw [if_neg (by omega)]
        omega
      rw [e3]
      exact hi _ (by omega)
    · rw [if_neg e2] at hc
      rcases r5 a' c' hc with h9 | ⟨g1, g2, g3, g4⟩
      · exact Or.inl h9
      · exact Or.inr ⟨g1, by show a' < h.1 + 1 + N; omega, g3, g4.kept (oq _ g4.lt)⟩
section EXM
variable {p : Program} {l : Launch} {e : Env} {R : Room} {s : State} {m : MethodId} {args : Array Value} {below : List Frame} {meth : Method} {c : Code} {H : Heap} {locs : List Loc} {cells slots : Nat} {Q : State → Prop}
variable {D : va_G} {dA : Nat → ClassId} {B b : Nat} {scr : Cell} {cc : ByteArray} {pc : Nat} {ls : Array Slot} {rest : List Value} {h : ex_Hp} {own : String} {index : Nat}
theorem ex_Sgrow {H' : Heap} {N : Nat} (hS : va_S (fun q => B ≤ q) s.heap H locs) (hz : H'.size = H.size + N) (oq : ∀ q : Nat, q < H.size → H'[q]? = H[q]?) : va_S (fun q => B ≤ q) s.heap H' locs :=
  ⟨Nat.le_trans hS.1 (by omega), fun x h1 h2 => (oq x (Nat.lt_of_lt_of_le h1 hS.1)).trans (hS.2.1 x h1 h2), hS.2.2⟩
theorem ex_rnew (hx : p.tables.exec = Jvm.exec) (hb : c.code = cc) (hts : ∀ w ∈ ex_gw, w.before args s = true) (hown : s.vm.findClass own = some m.cls) (hK : ex_K D dA scr s) (hR : ex_Rep D dA B b scr h H) (hS : va_S (fun q => B ≤ q) s.heap H locs) {ci : Nat} (hci : ci < 9) (hcl : Jvm.Cond.classLink own index (ex_T ci).1 ∈ ex_gw) (hcells : cells + 1 ≤ R.cells) (hslots : slots + ex_nf ci ≤ R.slots) (hdg : decode cc pc = .ok (.new index, 3))
    (kk : ∀ H' : Heap, ex_Rep D dA B b scr (ex_new h (.inr (.inr (ci, ex_dfl ci))) (ex_nf ci)) H' → va_S (fun q => B ≤ q) s.heap H' locs → W p l e R s m args below meth c H' locs (cells + 1) (slots + ex_nf ci) Q (F0 m (pc + 3) ls (.ref (ex_sh B b h.1) :: rest))) : W p l e R s m args below meth c H locs cells slots Q (F0 m pc ls rest) := by
  have hKn := hK.1.1 ci _ (ex_vw hci)
  have hi := (ex_vw_new hci).1
  rw [ex_nfN hci] at hi
  refine W.newcK (n := ex_nf ci) hx hb hown (hts _ hcl) (hts _ hi) (hts _ (ex_vw_new hci).2) rfl hdg hcells hslots hKn.2.1 rfl fun H1 kC hkC e1 z1 o1 => ?_
  have k1 := kk H1 (hR.push z1 o1 hci ?_) (ex_Sgrow hS z1 o1)
  · rw [ex_top hR] at k1
    exact k1
  · exact ⟨_, ex_vw hci, (u_born (ex_ty ci) hts (ex_vw_in hci) hKn hkC e1 (ex_tyok hci)).to (fun j hj => ex_dflV B b (by rw [← ex_nfN hci]; exact hj))⟩
theorem ex_rnewa (hx : p.tables.exec = Jvm.exec) (hb : c.code = cc) (hts : ∀ w ∈ ex_gw, w.before args s = true) (hK : ex_K D dA scr s) (hR : ex_Rep D dA B b scr h H) (hS : va_S (fun q => B ≤ q) s.heap H locs) {t : Nat} {atype : ArrayType} (hat : (t = 0 ∧ atype = .int) ∨ (t = 1 ∧ atype = .boolean)) {n : Int32} (hn : ¬ (n < 0 ∨ 100000 < n.toNatClampNeg)) (hcells : cells + 1 ≤ R.cells) (hslots : slots + n.toNatClampNeg ≤ R.slots) (hdg : decode cc pc = .ok (.newarray atype, 2))
    (kk : ∀ H' : Heap, ex_Rep D dA B b scr (ex_new h (.inl (t, n.toNatClampNeg, fun _ => 0)) n.toNatClampNeg) H' → va_S (fun q => B ≤ q) s.heap H' locs → W p l e R s m args below meth c H' locs (cells + 1) (slots + n.toNatClampNeg) Q (F0 m (pc + 2) ls (.ref (ex_sh B b h.1) :: rest))) : W p l e R s m args below meth c H locs cells slots Q (F0 m pc ls (.int n :: rest)) := by
  have h1 : ¬ n < 0 := fun q => hn (Or.inl q)
  have h2 : n.toNatClampNeg ≤ 100000 := Nat.not_lt.mp fun q => hn (Or.inr q)
  rcases hat with ⟨rfl, rfl⟩ | ⟨rfl, rfl⟩
  · refine va_newaK (atype := .int) hx hb (hts _ (ex_gw_of ex_arr_in.1)) rfl hdg rfl h1 rfl (by show n.toNatClampNeg * 4 ≤ _; omega) hcells hslots rfl fun H1 cA e1 z1 o1 hAr hNm => ?_
    have ec : dA 0 = cA := Option.some.inj ((hK.1.2 0 _ rfl).2.symm.trans hNm)
    have k1 := kk H1 (hR.push z1 o1 (Or.inl rfl) (by show H1[H.size]? = some (vp_cell _ _); rw [vp_cell_i, ec]; exact e1)) (ex_Sgrow hS z1 o1)
    rw [ex_top hR] at k1
    exact k1
  · refine va_newaK (atype := .boolean) hx hb (hts _ (ex_gw_of ex_arr_in.2)) rfl hdg rfl h1 rfl (by show n.toNatClampNeg * 1 ≤ _; omega) hcells hslots rfl fun H1 cA e1 z1 o1 hAr hNm => ?_
    have ec : dA 1 = cA := Option.some.inj ((hK.1.2 1 _ rfl).2.symm.trans hNm)
    have k1 := kk H1 (hR.push z1 o1 (Or.inr rfl) (by show H1[H.size]? = some (vp_cell _ _); rw [vp_cell_i, ec]; exact e1)) (ex_Sgrow hS z1 o1)
    rw [ex_top hR] at k1
    exact k1
theorem ex_ranew (hx : p.tables.exec = Jvm.exec) (hb : c.code = cc) (hts : ∀ w ∈ ex_gw, w.before args s = true) (hown : s.vm.findClass own = some m.cls) (hK : ex_K D dA scr s) (hR : ex_Rep D dA B b scr h H) (hS : va_S (fun q => B ≤ q) s.heap H locs) {t : Nat} {C : String} (hat : (t = 3 ∧ C = RX1) ∨ (t = 4 ∧ C = RX5) ∨ (t = 5 ∧ C = RX7)) (hcl : Jvm.Cond.classLink own index C ∈ ex_gw) {n : Int32} (hn : ¬ (n < 0 ∨ 100000 < n.toNatClampNeg)) (hcells : cells + 1 ≤ R.cells) (hslots : slots + n.toNatClampNeg ≤ R.slots) (hdg : decode cc pc = .ok (.anewarray index, 3))
    (kk : ∀ H' : Heap, ex_Rep D dA B b scr (ex_new h (.inr (.inl (t, n.toNatClampNeg, fun _ => none))) n.toNatClampNeg) H' → va_S (fun q => B ≤ q) s.heap H' locs → W p l e R s m args below meth c H' locs (cells + 1) (slots + n.toNatClampNeg) Q (F0 m (pc + 3) ls (.ref (ex_sh B b h.1) :: rest))) : W p l e R s m args below meth c H locs cells slots Q (F0 m pc ls (.int n :: rest)) := by
  have h1 : ¬ n < 0 := fun q => hn (Or.inl q)
  have h2 : n.toNatClampNeg ≤ 100000 := Nat.not_lt.mp fun q => hn (Or.inr q)
  have key : (Jvm.Cond.arrayOver (.object C)).before #[] s = true → va_RA s (dA t) (.object C) → (t = 2 ∨ t = 3 ∨ t = 4 ∨ t = 5) → W p l e R s m args below meth c H locs cells slots Q (F0 m pc ls (.int n :: rest)) := by
    intro hover hra htt
    obtain ⟨kA', comp', -, -, -, hra4⟩ := hra
    refine W.anew hx hb hown (hts _ hcl) hover rfl hdg rfl h1 (by omega) hcells hslots fun cA kA comp f1 f2 f3 f4 => ?_
    have ec : dA t = cA := Option.some.inj (hra4.symm.trans f1)
    have k1 := kk (H.push ({ cls := cA, slots := Array.replicate n.toNatClampNeg .null, vm := .none } : Cell)) (hR.push (by rw [Array.size_push]) (fun q hq => by rw [Array.getElem?_push, if_neg (Nat.ne_of_lt hq)]) htt (by
      show (H.push _)[H.size]? = some (arrV (dA t) _ (fun _ => .null))
      rw [Array.getElem?_push_size, ← arrV_new, ec])) (ex_Sgrow hS (N := 1) (by rw [Array.size_push]) (fun q hq => by rw [Array.getElem?_push, if_neg (Nat.ne_of_lt hq)]))
    rw [ex_top hR] at k1
    exact k1
  rcases hat with ⟨rfl, rfl⟩ | ⟨rfl, rfl⟩ | ⟨rfl, rfl⟩
  · exact key (hK.2.2.1 _ (by simp [ex_over])) (hK.1.2 3 _ rfl).2 (by omega)
  · exact key (hK.2.2.1 _ (by simp [ex_over])) (hK.1.2 4 _ rfl).2 (by omega)
  · exact key (hK.2.2.1 _ (by simp [ex_over])) (hK.1.2 5 _ rfl).2 (by omega)
theorem ex_rmna (hx : p.tables.exec = Jvm.exec) (hb : c.code = cc) (hts : ∀ w ∈ ex_gw, w.before args s = true) (hown : s.vm.findClass own = some m.cls) (hK : ex_K D dA scr s) (hR : ex_Rep D dA B b scr h H) (hS : va_S (fun q => B ≤ q) s.heap H locs) (hcl : Jvm.Cond.classLink own index "[[I" ∈ ex_gw) {n k : Int32} (hn : ¬ (n < 0 ∨ 100000 < n.toNatClampNeg ∨ k < 0 ∨ 100000 < k.toNatClampNeg)) (hcells : cells + (1 + n.toNatClampNeg) ≤ R.cells) (hslots : slots + (n.toNatClampNeg + n.toNatClampNeg * k.toNatClampNeg) ≤ R.slots) (hdg : decode cc pc = .ok (.multianewarray index 2, 4))
    (kk : ∀ H' : Heap, ex_Rep D dA B b scr (ex_new2 h n.toNatClampNeg k.toNatClampNeg) H' → va_S (fun q => B ≤ q) s.heap H' locs → W p l e R s m args below meth c H' locs (cells + 1 + n.toNatClampNeg) (slots + n.toNatClampNeg + n.toNatClampNeg * k.toNatClampNeg) Q (F0 m (pc + 4) ls (.ref (ex_sh B b h.1) :: rest))) : W p l e R s m args below meth c H locs cells slots Q (F0 m pc ls (.int k :: .int n :: rest)) := by
  have h1 : ¬ n < 0 := fun q => hn (Or.inl q)
  have h2 : n.toNatClampNeg ≤ 100000 := Nat.not_lt.mp fun q => hn (Or.inr (Or.inl q))
  have h3 : ¬ k < 0 := fun q => hn (Or.inr (Or.inr (Or.inl q)))
  have h4 : k.toNatClampNeg ≤ 100000 := Nat.not_lt.mp fun q => hn (Or.inr (Or.inr (Or.inr q)))
  intro T hT Xs
  obtain ⟨vm₁, cA, comp, fA, fC, X', step⟩ := mq_step Xs hx hown (hts _ hcl) (hK.2.2.1 (.array .int) (by simp [ex_over])) (hts _ (ex_gw_of ex_arr_in.1)) (g := F0 m pc ls (.int k :: .int n :: rest)) rfl (by rw [hb]; exact hdg) rfl h1 h3 h2 h4 hcells hslots
  have e0 : dA 0 = comp := Option.some.inj ((hK.1.2 0 _ rfl).2.symm.trans fC)
  have e2 : dA 2 = cA := Option.some.inj ((hK.1.2 2 _ rfl).2.symm.trans fA)
  have hTh : (T.setVm vm₁).heap = H := hT
  have f1 := mq_size (T := T.setVm vm₁) (cA := cA) (cI := comp) (N := n.toNatClampNeg) (K := k.toNatClampNeg) n.toNatClampNeg
  have f2 := mq_at (T := T.setVm vm₁) (cA := cA) (cI := comp) (N := n.toNatClampNeg) (K := k.toNatClampNeg) n.toNatClampNeg
  have f3 := mq_row (T := T.setVm vm₁) (cA := cA) (cI := comp) (N := n.toNatClampNeg) (K := k.toNatClampNeg) n.toNatClampNeg
  have f4 := fun (x : Nat) (hx9 : x < (T.setVm vm₁).heap.size) => mq_old (T := T.setVm vm₁) (cA := cA) (cI := comp) (N := n.toNatClampNeg) (K := k.toNatClampNeg) hx9 n.toNatClampNeg
  generalize hF : mq_st (T.setVm vm₁) cA comp n.toNatClampNeg k.toNatClampNeg n.toNatClampNeg = F at X' step f1 f2 f3 f4
  rw [hTh] at f1 f2
  simp only [hTh] at f3 f4
  have hold : ∀ x : Nat, x < H.size → F.heap[x]? = H[x]? := f4
  have hrow : ∀ j : Nat, j < n.toNatClampNeg → F.heap[H.size + 1 + j]? = some (arrV (dA 0) k.toNatClampNeg (fun _ => .int 0)) := fun j hj => by
    rw [e0]
    exact f3 j hj
  unfold mq_out at f2
  rw [← e2] at f2
  have f1' : F.heap.size = H.size + (1 + n.toNatClampNeg) := by omega
  obtain ⟨t, a1, b1⟩ := kk F.heap (ex_new2_rep hR f1 hold f2 hrow) (ex_Sgrow hS f1' hold) F rfl X'
  refine ⟨t, step t ?_, b1⟩
  have e9 : T.heap.size = H.size := by rw [hT]
  rw [ex_top hR] at a1
  rw [e9]
  exact a1
theorem ex_rcopy (hx : p.tables.exec = Jvm.exec) (hb : c.code = cc) (hml : c.maxLocals = ls.size) (hts : ∀ w ∈ ex_gw, w.before args s = true) (hown : s.vm.findClass own = some m.cls) (hl : Jvm.Cond.methodLink own index arraycopyName ∈ ex_gw) (hK : ex_K D dA scr s) (hR : ex_Rep D dA B b scr h H) (hS : va_S (fun q => B ≤ q) s.heap H locs) {o d n0 n1 : Nat} {f g : Nat → Int32} (ho : h.2.2 o = some (.inl (0, n0, f))) (hd : h.2.2 d = some (.inl (0, n1, g))) {sp dp n : Int32} (h1 : ¬ sp < 0) (h2 : ¬ dp < 0) (h3 : ¬ n < 0) (h4 : sp.toNatClampNeg + n.toNatClampNeg ≤ n0) (h5 : dp.toNatClampNeg + n.toNatClampNeg ≤ n1)
    (hframes : 1 ≤ R.frames) (hlocals : (rest.map fun v => v.category).sum + (nativeFrameWords "java/lang/System" "arraycopy" 5 + 11) ≤ R.locals) (hdg : decode cc pc = .ok (.invokestatic index, 3))
    (kk : ∀ (H' : Heap) (locs' : List Loc), ex_Rep D dA B b scr (ex_set h d (.inl (0, n1, va_cpy f g sp.toNatClampNeg dp.toNatClampNeg n.toNatClampNeg))) H' → va_S (fun q => B ≤ q) s.heap H' locs' → W p l e R s m args below meth c H' locs' cells slots Q (F0 m (pc + 3) ls rest)) : W p l e R s m args below meth c H locs cells slots Q (F0 m pc ls (.int n :: .int dp :: .ref (ex_sh B b d) :: .int sp :: .ref (ex_sh B b o) :: rest)) := by
  have nn : ∀ z : Int32, ¬ z < 0 → z.toInt = (z.toNatClampNeg : Int) := by
    intro z hz
    have hz0 : (0 : Int) ≤ z.toInt := by
      have := Int32.not_lt.mp hz
      simpa using Int32.le_iff_toInt_le.mp this
    show z.toInt = ((z.toInt.toNat : Nat) : Int)
    omega
  rcases hR.2.2.2.2 o _ ho with ⟨rfl, n', f', hc, q1, q2, q3⟩ | ⟨g1, g2, g3, hc0⟩
  · cases hc
  rcases hR.2.2.2.2 d _ hd with ⟨rfl, n', f', hc, q1, q2, q3⟩ | ⟨w1, w2, w3, hc1⟩
  · cases hc
  have hc0 : H[ex_sh B b o]? = some (vp_cell (dA 0) (n0, .inl f)) := hc0
  have hc1 : H[ex_sh B b d]? = some (vp_cell (dA 0) (n1, .inl g)) := hc1
  intro T hT X
  obtain ⟨-, k0, hk0, cm0, hkk0⟩ := (hK.1.2 0 _ rfl).1 n0 (fun j => .int (f j))
  obtain ⟨vm', X', step⟩ := X.arraycopy hx hown (hts _ hl) (hts _ (ex_gw_of ex_copy_in.1)) (hts _ (ex_gw_of ex_copy_in.2.1)) (hts _ (ex_gw_of ex_copy_in.2.2)) (src := ex_sh B b o) (dst := ex_sh B b d) (cs := vp_cell (dA 0) (n0, .inl f)) (cd := vp_cell (dA 0) (n1, .inl g)) (srcPos := sp) (destPos := dp) (n := n) (by rw [hT]; exact hc0) (by rw [hT]; exact hc1)
    (fun _ h => by cases h) (fun _ h => by cases h) (fun h => by cases h) (fun h => by cases h) hk0 hk0 hkk0 hkk0 (by simp [refKind]) h1 h2 h3
    (by rw [nn sp h1, nn n h3]; show ¬ _ > ((arrV (dA 0) n0 (fun j => .int (f j))).slots.size : Int); rw [arrV_size]; omega)
    (by rw [nn dp h2, nn n h3]; show ¬ _ > ((arrV (dA 0) n1 (fun j => .int (g j))).slots.size : Int); rw [arrV_size]; omega)
    (fun vm₁ _ i hi => by
      have e : (vp_cell (dA 0) (n0, .inl f)).slots.getD (sp.toNatClampNeg + i) .null = .int (f (sp.toNatClampNeg + i)) := by
        show (arrV (dA 0) n0 (fun j => .int (f j))).slots.getD _ _ = _
        rw [Array.getD_eq_getD_getElem?, arrV_read _ _ (by omega)]
        rfl
      refine ⟨?_, ?_⟩
      · rw [e]
        rfl
      · rw [e]
        exact trivial)
    (g := F0 m pc ls (.int n :: .int dp :: .ref (ex_sh B b d) :: .int sp :: .ref (ex_sh B b o) :: rest)) rfl (by rw [hml]) (rest := rest) rfl (by rw [hb]; exact hdg) hframes (by show 2 * 0 + _ + _ ≤ _; omega)
  have e1 : copied (vp_cell (dA 0) (n0, .inl f)) (vp_cell (dA 0) (n1, .inl g)) sp dp n = vp_cell (dA 0) (n1, .inl (va_cpy f g sp.toNatClampNeg dp.toNatClampNeg n.toNatClampNeg)) := va_copied (fun z => .int z) (dA 0) (dA 0) f g h4
  rw [e1] at X' step
  have hlt : ex_sh B b d < H.size := (Array.getElem?_eq_some_iff.mp hc1).1
  generalize hN : vp_cell (dA 0) (n1, .inl (va_cpy f g sp.toNatClampNeg dp.toNatClampNeg n.toNatClampNeg)) = newc at X' step
  have hheap : ((T.setVm vm').setCell (ex_sh B b d) newc).heap = H.setIfInBounds (ex_sh B b d) newc := by rw [← hT]; rfl
  have oq : ∀ q : Nat, q ≠ ex_sh B b d → (H.setIfInBounds (ex_sh B b d) newc)[q]? = H[q]? := fun q hq => by simp [Array.getElem?_setIfInBounds, Ne.symm hq]
  obtain ⟨t, a1, b1⟩ := kk (H.setIfInBounds (ex_sh B b d) newc) _ (hR.put w1 w2 (by simp) oq (Or.inl rfl) (show (H.setIfInBounds (ex_sh B b d) newc)[ex_sh B b d]? = some (vp_cell (dA 0) _) by rw [hN]; simp [Array.getElem?_setIfInBounds, hlt])) ⟨by simp; exact hS.1, fun q g1 g2 => by
      rw [oq q (fun e => g2 (by rw [e]; exact ex_sh_ge w1))]
      exact hS.2.1 q g1 g2, fun q hq => by
      rcases List.mem_append.mp hq with h | h
      · exact hS.2.2 q h
      · obtain ⟨z, -, hz⟩ := List.mem_map.mp h
        rw [← hz]
        exact ex_sh_ge w1⟩ _ hheap X'
  exact ⟨t, step t a1, b1⟩
theorem ex_rclone (hx : p.tables.exec = Jvm.exec) (hb : c.code = cc) (hml : c.maxLocals = ls.size) (hts : ∀ w ∈ ex_gw, w.before args s = true) (hown : s.vm.findClass own = some m.cls) (hl : Jvm.Cond.methodLink own index ex_clname ∈ ex_gw) (hK : ex_K D dA scr s) (hR : ex_Rep D dA B b scr h H) (hS : va_S (fun q => B ≤ q) s.heap H locs) {o n : Nat} {f : Nat → Int32} (ho : h.2.2 o = some (.inl (0, n, f)))
    (hframes : 1 ≤ R.frames) (hlocals : (rest.map fun v => v.category).sum + 14 ≤ R.locals) (hcells : cells + 1 ≤ R.cells) (hslots : slots + n ≤ R.slots) (hdg : decode cc pc = .ok (.invokevirtual index, 3))
    (kk : ∀ H' : Heap, ex_Rep D dA B b scr (ex_new h (.inl (0, n, f)) n) H' → va_S (fun q => B ≤ q) s.heap H' locs → W p l e R s m args below meth c H' locs (cells + 1) (slots + n) Q (F0 m (pc + 3) ls (.ref (ex_sh B b h.1) :: rest))) : W p l e R s m args below meth c H locs cells slots Q (F0 m pc ls (.ref (ex_sh B b o) :: rest)) := by
  rcases hR.2.2.2.2 o _ ho with ⟨rfl, n', f', hc, q1, q2, q3⟩ | ⟨g1, g2, g3, hc0⟩
  · cases hc
  have hc0 : H[ex_sh B b o]? = some (arrV (dA 0) n (fun j => .int (f j))) := hc0
  have hnm : s.vm.findClass "[I" = some (dA 0) := (hK.1.2 0 _ rfl).2
  obtain ⟨c0, t0', f1, f2, f3⟩ := Cond.castable_spec (va_Nw.use (A := args) rfl hK.2.2.2.1)
  cases hnm.symm.trans f1
  intro T hT X
  have hcellT : T.heap[ex_sh B b o]? = some (arrV (dA 0) n (fun j => .int (f j))) := by rw [hT]; exact hc0
  obtain ⟨-, kA, hkA, comp, hkind⟩ := State.isArrayOf_alike X.warmed.alike ((hK.1.2 0 _ rfl).1 0 (fun _ => .null))
  obtain ⟨-, kS, hkS, compS, hkindS⟩ := (hK.1.2 0 _ rfl).1 0 (fun _ => .null)
  obtain ⟨vm', X', st⟩ := X.cloneArray hx hown (hts _ hl) (hts _ (ex_gw_of ex_clone_in.1)) (hts _ (ex_gw_of ex_clone_in.2.1)) (hts _ (ex_gw_of ex_clone_in.2.2.1)) (hts _ (ex_gw_of ex_clone_in.2.2.2)) (a := ex_sh B b o) (cell := arrV (dA 0) n (fun j => .int (f j))) hcellT (fun k h => by cases h) (fun h => by cases h) hnm f2 f3
    (fun i v hv => by
      have hk' : T.vm.classes[dA 0]? = some kA := hkA
      have hf : fits .int v = true := by
        by_cases hi : i < n
        · rw [arrV_read _ _ hi] at hv
          cases hv
          rfl
        · rw [Array.getElem?_eq_none (by rw [arrV_size]; omega)] at hv
          cases hv
      show T.fitsSlot (dA 0) _ i v = true
      simpa [State.fitsSlot, State.slotType?, hk', hkind, arrV] using hf)
    (g := F0 m pc ls (.ref (ex_sh B b o) :: rest)) rfl (by rw [hml]) rfl (by rw [hb]; exact hdg) hframes (by show 2 * 0 + _ + 14 ≤ _; omega) hcells (by rw [arrV_size]; exact hslots) (hloader := Vm.clonesLoader_of_array hkS hkindS)
  have hcE : ({ cls := (arrV (dA 0) n (fun j => .int (f j))).cls, slots := (arrV (dA 0) n (fun j => .int (f j))).slots } : Cell) = arrV (dA 0) n (fun j => .int (f j)) := rfl
  rw [hcE, arrV_size] at X'
  rw [hcE] at st
  obtain ⟨t, b1, b2⟩ := kk (H.push (arrV (dA 0) n (fun j => .int (f j)))) (hR.push (by rw [Array.size_push]) (fun q hq => by rw [Array.getElem?_push, if_neg (Nat.ne_of_lt hq)]) (Or.inl rfl) (by
      show (H.push _)[H.size]? = some (vp_cell _ _)
      rw [Array.getElem?_push_size, vp_cell_i])) (ex_Sgrow hS (N := 1) (by rw [Array.size_push]) (fun q hq => by rw [Array.getElem?_push, if_neg (Nat.ne_of_lt hq)]))
    ((T.setVm vm').pushCell (arrV (dA 0) n (fun j => .int (f j)))) (by rw [← hT]; rfl) X'
  refine ⟨t, st t ?_, b2⟩
  rw [ex_top hR, ← hT] at b1
  exact b1
end EXM
