/-! THE MACHINE'S STEPS OVER CELLS, as the pure machine has them. -/
section EXR
variable {p : Program} {l : Launch} {e : Env} {R : Room} {s : State} {m : MethodId} {args : Array Value} {below : List Frame} {meth : Method} {c : Code} {H : Heap} {locs : List Loc} {cells slots : Nat} {Q : State → Prop}
variable {D : va_G} {dA : Nat → ClassId} {B b : Nat} {scr : Cell} {cc : ByteArray} {pc : Nat} {ls : Array Slot} {rest : List Value} {h : ex_Hp} {own : String} {index : Nat}
theorem ex_rget (hx : p.tables.exec = Jvm.exec) (hb : c.code = cc) (hts : ∀ w ∈ ex_gw, w.before args s = true) (hown : s.vm.findClass own = some m.cls) (hK : ex_K D dA scr s) (hR : ex_Rep D dA B b scr h H) {o ci k : Nat} {fs : List Value} {v : Value} (ho : h.2.2 o = some (.inr (.inr (ci, fs)))) (hci : ci < 9) (hk : k < ex_nf ci) (hv : fs[k]? = some v)
    (hl : Jvm.Cond.fieldLink own index ((ex_T ci).2.1 k).1 ((ex_T ci).2.1 k).2.1 ((ex_T ci).2.1 k).2.2.1 ∈ ex_gw) (hdg : decode cc pc = .ok (.getfield index, 3))
    (kk : W p l e R s m args below meth c H locs cells slots Q (F0 m (pc + 3) ls (ex_sv B b v :: rest))) : W p l e R s m args below meth c H locs cells slots Q (F0 m pc ls (.ref (ex_sh B b o) :: rest)) := by
  rcases hR.2.2.2.2 o _ ho with ⟨-, n, f, hc, -⟩ | ⟨g1, g2, g3, g4⟩
  · cases hc
  · exact va_get (C := (ex_T ci).1) (T := (ex_T ci).2.1) (N := (ex_T ci).2.2) (fs := fs.map (ex_sv B b)) hx hb hts (ex_vw_in hci) hown hK.1 (ex_one g4) 0 rfl (ex_vw hci) k (by rw [ex_nfN hci]; exact hk) (hts _ hl) (fun _ q => q) (by rw [List.getElem?_map, hv]; rfl) hdg kk
theorem ex_rput (hx : p.tables.exec = Jvm.exec) (hb : c.code = cc) (hts : ∀ w ∈ ex_gw, w.before args s = true) (hown : s.vm.findClass own = some m.cls) (hK : ex_K D dA scr s) (hR : ex_Rep D dA B b scr h H) (hS : va_S (fun q => B ≤ q) s.heap H locs) {o ci k : Nat} {fs : List Value} {v : Value} (ho : h.2.2 o = some (.inr (.inr (ci, fs)))) (hci : ci < 9) (hk : k < ex_nf ci) (hv : ex_fit (ex_ty ci k) v = true) (hlen : k < fs.length)
    (hl : Jvm.Cond.fieldLink own index ((ex_T ci).2.1 k).1 ((ex_T ci).2.1 k).2.1 ((ex_T ci).2.1 k).2.2.1 ∈ ex_gw) (hfin : ((ex_T ci).2.1 k).2.2.2 = false ∨ (meth.name = "<init>" ∧ ((ex_T ci).2.1 k).1 = own)) (hdg : decode cc pc = .ok (.putfield index, 3))
    (kk : ∀ (H' : Heap) (locs' : List Loc), ex_Rep D dA B b scr (ex_set h o (.inr (.inr (ci, fs.set k v)))) H' → va_S (fun q => B ≤ q) s.heap H' locs' → W p l e R s m args below meth c H' locs' cells slots Q (F0 m (pc + 3) ls rest)) : W p l e R s m args below meth c H locs cells slots Q (F0 m pc ls (ex_sv B b v :: .ref (ex_sh B b o) :: rest)) := by
  rcases hR.2.2.2.2 o _ ho with ⟨-, n, f, hc, -⟩ | ⟨g1, g2, g3, g4⟩
  · cases hc
  have hkN : k < (ex_T ci).2.2 := by rw [ex_nfN hci]; exact hk
  have hap := va_apart (own := own) hts (ex_vw_in hci) (ex_ty ci) (ex_tyok hci) (ex_ndok hci) hK.1 (ex_vw hci)
  obtain ⟨r, h1, cell, q1, q2, q3, q4⟩ := g4
  have hr : r = ex_T ci := Option.some.inj (h1.symm.trans (ex_vw hci))
  subst hr
  obtain ⟨hSl, hfc, kC, hkC, hkind⟩ := hK.1.1 ci _ (ex_vw hci)
  obtain ⟨cf, kf, fi, f, hi, hsl⟩ := hSl k hkN
  have hlay := hts _ (ex_vw_in hci _ (u_in_lay hkN))
  have hst := (u_facts hfc hkC (u_lays hts (ex_vw_in hci) hkN) hi).1
  obtain ⟨hnar, hfit⟩ := ex_fit_ok B b hv
  have hdd := ex_tyok hci k hkN
  have fin : ∀ H' : Heap, H'[ex_sh B b o]? = some (cell.setSlot f.slot (ex_sv B b v)) → H'.size = H.size → (∀ q, q ≠ ex_sh B b o → H'[q]? = H[q]?) → W p l e R s m args below meth c H' (locs ++ [⟨ex_sh B b o, f.slot⟩]) cells slots Q (F0 m (pc + 3) ls rest) := by
    intro H' e1 e2 e3
    rw [hsl] at e1
    refine kk H' _ (hR.put g1 g2 e2 e3 g3 ?_) (hS.put e2 e3 (ex_sh_ge g1))
    refine ⟨_, ex_vw hci, t_OB.to (V := updV (vp_V (fs.map (ex_sv B b))) k (ex_sv B b v)) ⟨_, e1, q2, q3, t_set q4 hap hkN _⟩ (fun j _ => ?_)⟩
    rw [vp_updV_set (by rw [List.length_map]; exact hlen)]
    show _ = vp_V ((fs.set k v).map (ex_sv B b)) j
    rw [List.map_set]
  by_cases hfl : ((ex_T ci).2.1 k).2.2.2 = true
  · rcases hfin with q | ⟨hin2, hdecl⟩
    · rw [q] at hfl; cases hfl
    unfold u_lay at hlay
    rw [if_pos hfl] at hlay
    have hcf : m.cls = cf := by
      obtain ⟨_, _, c', _, _, _, -, -, hf', -, -, -, hown2, -⟩ := Cond.laysFinal_spec hlay
      have e1 : c' = cf := by have := hi.symm.trans hf'; simp at this; exact this.1.symm
      rw [hdecl] at hown2
      rw [← e1]; exact Option.some.inj (hown.symm.trans hown2)
    have h6 := u_fits hfc hkC hkind (Or.inr hlay) hi hdd hnar hfit
    exact W.putFinK hx hb hown (hts _ hl) hi hst hcf hin2 (by rw [q2]; exact h6) q1 q3 (by rw [hsl]; exact k2_hasslot (q4 k hkN)) rfl rfl hdg fin
  · unfold u_lay at hlay
    rw [if_neg hfl] at hlay
    have h6 := u_store hfc hkC hkind hlay hi hdd hnar hfit
    exact W.putK hx hb (f := f) ⟨hown, hts _ hl, ⟨_, _, _, hi⟩, hst⟩ (by rw [q2]; exact h6) q1 q3 (by rw [hsl]; exact k2_hasslot (q4 k hkN)) rfl rfl hdg fin
theorem ex_riald (hx : p.tables.exec = Jvm.exec) (hb : c.code = cc) (hK : ex_K D dA scr s) (hR : ex_Rep D dA B b scr h H) {o t n j : Nat} {f : Nat → Int32} {i : Int32} (ho : h.2.2 o = some (.inl (t, n, f))) (ht : t = 0 ∨ t = 9) (hi : ex_ix i n = some j) (hdg : decode cc pc = .ok (.iaload, 1))
    (kk : W p l e R s m args below meth c H locs cells slots Q (F0 m (pc + 1) ls (.int (f j) :: rest))) : W p l e R s m args below meth c H locs cells slots Q (F0 m pc ls (.int i :: .ref (ex_sh B b o) :: rest)) := by
  obtain ⟨hin, rfl⟩ := ex_ix_some hi
  rcases hR.2.2.2.2 o _ ho with ⟨rfl, n', f', hc, q1, q2, q3⟩ | ⟨g1, g2, g3, g4⟩
  · cases hc
    have hlt : i.toNatClampNeg < n := Nat.not_le.mp fun q => hin (Or.inr q)
    exact W.iald (v := .int (f i.toNatClampNeg)) hx hb (show H[ex_sh B b 0]? = some scr from hR.2.2.2.1) hK.2.1 q1 (by rw [q2]; exact hin) (q3 _ hlt) rfl rfl hdg kk
  · have ht0 : t = 0 := by
      rcases g3 with q | q
      · exact q
      · omega
    subst ht0
    exact va_iald hx hb hK.1 (ex_one g4) 0 0 rfl rfl hin hdg kk
theorem ex_rbald (hx : p.tables.exec = Jvm.exec) (hb : c.code = cc) (hK : ex_K D dA scr s) (hR : ex_Rep D dA B b scr h H) {o t n j : Nat} {f : Nat → Int32} {i : Int32} (ho : h.2.2 o = some (.inl (t, n, f))) (ht : t = 1) (hi : ex_ix i n = some j) (hdg : decode cc pc = .ok (.baload, 1))
    (kk : W p l e R s m args below meth c H locs cells slots Q (F0 m (pc + 1) ls (.int (f j) :: rest))) : W p l e R s m args below meth c H locs cells slots Q (F0 m pc ls (.int i :: .ref (ex_sh B b o) :: rest)) := by
  obtain ⟨hin, rfl⟩ := ex_ix_some hi
  subst ht
  rcases hR.2.2.2.2 o _ ho with ⟨rfl, n', f', hc, q1, q2, q3⟩ | ⟨g1, g2, g3, g4⟩
  · cases hc
  · exact va_zald hx hb hK.1 (ex_one g4) 0 1 rfl rfl hin hdg kk
theorem ex_riast (hx : p.tables.exec = Jvm.exec) (hb : c.code = cc) (hK : ex_K D dA scr s) (hR : ex_Rep D dA B b scr h H) (hS : va_S (fun q => B ≤ q) s.heap H locs) {o t n j : Nat} {f : Nat → Int32} {i x : Int32} (ho : h.2.2 o = some (.inl (t, n, f))) (ht : t = 0) (hi : ex_ix i n = some j) (hdg : decode cc pc = .ok (.iastore, 1))
    (kk : ∀ (H' : Heap) (locs' : List Loc), ex_Rep D dA B b scr (ex_set h o (.inl (t, n, upd f j x))) H' → va_S (fun q => B ≤ q) s.heap H' locs' → W p l e R s m args below meth c H' locs' cells slots Q (F0 m (pc + 1) ls rest)) : W p l e R s m args below meth c H locs cells slots Q (F0 m pc ls (.int x :: .int i :: .ref (ex_sh B b o) :: rest)) := by
  obtain ⟨hin, rfl⟩ := ex_ix_some hi
  subst ht
  rcases hR.2.2.2.2 o _ ho with ⟨rfl, n', f', hc, q1, q2, q3⟩ | ⟨g1, g2, g3, g4⟩
  · cases hc
  refine W.iast hx hb g4 ((hK.1.2 0 _ rfl).1 n (fun j => .int (f j))) (fun q => by cases q) (by show ¬ (i < 0 ∨ (arrV _ _ _).slots.size ≤ _); rw [arrV_size]; exact hin) rfl rfl hdg fun H1 e1 z oq => ?_
  refine kk H1 _ (hR.put g1 g2 z oq (Or.inl rfl) ?_) (hS.put z oq (ex_sh_ge g1))
  show H1[ex_sh B b o]? = some (vp_cell _ _)
  rw [e1]
  rw [vp_cell_i, vp_cell_i, arrV_store]
  congr 2
  funext q
  by_cases hq : q = i.toNatClampNeg
  · subst hq
    simp [updV, upd]
  · simp [updV, upd, hq]
theorem ex_rbast (hx : p.tables.exec = Jvm.exec) (hb : c.code = cc) (hK : ex_K D dA scr s) (hR : ex_Rep D dA B b scr h H) (hS : va_S (fun q => B ≤ q) s.heap H locs) {o t n j : Nat} {f : Nat → Int32} {i x : Int32} (ho : h.2.2 o = some (.inl (t, n, f))) (ht : t = 1 ∧ (x = 0 ∨ x = 1)) (hi : ex_ix i n = some j) (hdg : decode cc pc = .ok (.bastore, 1))
    (kk : ∀ (H' : Heap) (locs' : List Loc), ex_Rep D dA B b scr (ex_set h o (.inl (t, n, upd f j x))) H' → va_S (fun q => B ≤ q) s.heap H' locs' → W p l e R s m args below meth c H' locs' cells slots Q (F0 m (pc + 1) ls rest)) : W p l e R s m args below meth c H locs cells slots Q (F0 m pc ls (.int x :: .int i :: .ref (ex_sh B b o) :: rest)) := by
  obtain ⟨hin, rfl⟩ := ex_ix_some hi
  obtain ⟨rfl, hx01⟩ := ht
  rcases hR.2.2.2.2 o _ ho with ⟨rfl, n', f', hc, q1, q2, q3⟩ | ⟨g1, g2, g3, g4⟩
  · cases hc
  refine W.zast hx hb g4 ((hK.1.2 1 _ rfl).1 n (fun j => .int (f j))) (fun q => by cases q) (by show ¬ (i < 0 ∨ (arrV _ _ _).slots.size ≤ _); rw [arrV_size]; exact hin) rfl rfl hdg fun H1 e1 z oq => ?_
  refine kk H1 _ (hR.put g1 g2 z oq (Or.inr rfl) ?_) (hS.put z oq (ex_sh_ge g1))
  show H1[ex_sh B b o]? = some (vp_cell _ _)
  rw [e1]
  rw [vp_cell_i, vp_cell_i, arrV_store]
  congr 2
  funext q
  by_cases hq : q = i.toNatClampNeg
  · subst hq
    simp [updV, upd]
    rcases hx01 with rfl | rfl <;> rfl
  · simp [updV, upd, hq]
theorem ex_raald (hx : p.tables.exec = Jvm.exec) (hb : c.code = cc) (hK : ex_K D dA scr s) (hR : ex_Rep D dA B b scr h H) {o t n j : Nat} {f : Nat → Option Nat} {i : Int32} (ho : h.2.2 o = some (.inr (.inl (t, n, f)))) (hi : ex_ix i n = some j) (hdg : decode cc pc = .ok (.aaload, 1))
    (kk : W p l e R s m args below meth c H locs cells slots Q (F0 m (pc + 1) ls (ex_sv B b (va_rf (f j)) :: rest))) : W p l e R s m args below meth c H locs cells slots Q (F0 m pc ls (.int i :: .ref (ex_sh B b o) :: rest)) := by
  obtain ⟨hin, rfl⟩ := ex_ix_some hi
  rcases hR.2.2.2.2 o _ ho with ⟨rfl, n', f', hc, q1, q2, q3⟩ | ⟨g1, g2, g3, g4⟩
  · cases hc
  have hlt : i.toNatClampNeg < n := Nat.not_le.mp fun q => hin (Or.inr q)
  have g4 : H[ex_sh B b o]? = some (arrV (dA t) n (fun j => va_rf ((f j).map (ex_sh B b)))) := g4
  have key : ∀ ty : FieldType, ty.isReference = true → ArrOfT s (dA t) ty → W p l e R s m args below meth c H locs cells slots Q (F0 m pc ls (.int i :: .ref (ex_sh B b o) :: rest)) := fun ty hty hA =>
    W.aald (v := ex_sv B b (va_rf (f i.toNatClampNeg))) (ty := ty) hx hb g4 (hA n _) hty (fun q => by cases q) (by rw [arrV_size]; exact hin) (by rw [arrV_read _ _ hlt, ex_rf]) rfl rfl hdg kk
  rcases g3 with rfl | rfl | rfl | rfl
  · exact key _ rfl (hK.1.2 2 _ rfl).1
  · exact key _ rfl (hK.1.2 3 _ rfl).1
  · exact key _ rfl (hK.1.2 4 _ rfl).1
  · exact key _ rfl (hK.1.2 5 _ rfl).1
theorem ex_ralen (hx : p.tables.exec = Jvm.exec) (hb : c.code = cc) (hK : ex_K D dA scr s) (hR : ex_Rep D dA B b scr h H) {o n : Nat} (ho : (∃ t f, h.2.2 o = some (.inl (t, n, f))) ∨ ∃ t f, h.2.2 o = some (.inr (.inl (t, n, f)))) (hdg : decode cc pc = .ok (.arraylength, 1))
    (kk : W p l e R s m args below meth c H locs cells slots Q (F0 m (pc + 1) ls (.int (Int32.ofNat n) :: rest))) : W p l e R s m args below meth c H locs cells slots Q (F0 m pc ls (.ref (ex_sh B b o) :: rest)) := by
  rcases ho with ⟨t, f, ho⟩ | ⟨t, f, ho⟩
  · rcases hR.2.2.2.2 o _ ho with ⟨rfl, n', f', hc, q1, q2, q3⟩ | ⟨g1, g2, g3, g4⟩
    · cases hc
      exact W.alen (n := Int32.ofNat n) hx hb (show H[ex_sh B b 0]? = some scr from hR.2.2.2.1) hK.2.1 (by rw [q2] <;> rfl) rfl rfl hdg kk
    · rcases g3 with rfl | rfl
      · exact va_alen hx hb hK.1 (ex_one g4) 0 0 rfl rfl rfl hdg kk
      · exact va_alen hx hb hK.1 (ex_one g4) 0 1 rfl rfl rfl hdg kk
  · rcases hR.2.2.2.2 o _ ho with ⟨rfl, n', f', hc, q1, q2, q3⟩ | ⟨g1, g2, g3, g4⟩
    · cases hc
    · rcases g3 with rfl | rfl | rfl | rfl
      · exact va_alen hx hb hK.1 (ex_one g4) 0 2 rfl rfl rfl hdg kk
      · exact va_alen hx hb hK.1 (ex_one g4) 0 3 rfl rfl rfl hdg kk
      · exact va_alen hx hb hK.1 (ex_one g4) 0 4 rfl rfl rfl hdg kk
      · exact va_alen hx hb hK.1 (ex_one g4) 0 5 rfl rfl rfl hdg kk
theorem ex_rcast (hx : p.tables.exec = Jvm.exec) (hb : c.code = cc) (hts : ∀ w ∈ ex_gw, w.before args s = true) (hown : s.vm.findClass own = some m.cls) (hK : ex_K D dA scr s) (hR : ex_Rep D dA B b scr h H) {o t n : Nat} {f : Nat → Int32} (ho : h.2.2 o = some (.inl (t, n, f))) (ht : t = 0) (hl : Jvm.Cond.classLink own index "[I" ∈ ex_gw) (hdg : decode cc pc = .ok (.checkcast index, 3))
    (kk : W p l e R s m args below meth c H locs cells slots Q (F0 m (pc + 3) ls (.ref (ex_sh B b o) :: rest))) : W p l e R s m args below meth c H locs cells slots Q (F0 m pc ls (.ref (ex_sh B b o) :: rest)) := by
  subst ht
  rcases hR.2.2.2.2 o _ ho with ⟨rfl, n', f', hc, q1, q2, q3⟩ | ⟨g1, g2, g3, g4⟩
  · cases hc
  exact va_castA hx hb hown (hts _ hl) (ex_one g4) 0 rfl (hK.1.2 0 _ rfl).2 hdg kk
theorem ex_raast (hx : p.tables.exec = Jvm.exec) (hb : c.code = cc) (hK : ex_K D dA scr s) (hR : ex_Rep D dA B b scr h H) (hS : va_S (fun q => B ≤ q) s.heap H locs) {o t n j x : Nat} {f : Nat → Option Nat} {d : ex_AC} {i : Int32} (ho : h.2.2 o = some (.inr (.inl (t, n, f)))) (hd : h.2.2 x = some d) (hm : ex_may t d = true) (hi : ex_ix i n = some j) (hdg : decode cc pc = .ok (.aastore, 1))
    (kk : ∀ (H' : Heap) (locs' : List Loc), ex_Rep D dA B b scr (ex_set h o (.inr (.inl (t, n, va_up f j (some x))))) H' → va_S (fun q => B ≤ q) s.heap H' locs' → W p l e R s m args below meth c H' locs' cells slots Q (F0 m (pc + 1) ls rest)) : W p l e R s m args below meth c H locs cells slots Q (F0 m pc ls (.ref (ex_sh B b x) :: .int i :: .ref (ex_sh B b o) :: rest)) := by
  obtain ⟨hin, rfl⟩ := ex_ix_some hi
  have hlt : i.toNatClampNeg < n := Nat.not_le.mp fun q => hin (Or.inr q)
  have h0 : ¬ i < 0 := fun q => hin (Or.inl q)
  rcases hR.2.2.2.2 o _ ho with ⟨rfl, n', f', hc, q1, q2, q3⟩ | ⟨g1, g2, g3, g4⟩
  · cases hc
  have g4 : H[ex_sh B b o]? = some (arrV (dA t) n (fun j => va_rf ((f j).map (ex_sh B b)))) := g4
  have fin : ∀ H1 : Heap, H1[ex_sh B b o]? = some ((arrV (dA t) n (fun j => va_rf ((f j).map (ex_sh B b)))).setSlot i.toNatClampNeg (.ref (ex_sh B b x))) → H1.size = H.size → (∀ q, q ≠ ex_sh B b o → H1[q]? = H[q]?) → W p l e R s m args below meth c H1 (locs ++ [⟨ex_sh B b o, i.toNatClampNeg⟩]) cells slots Q (F0 m (pc + 1) ls rest) := by
    intro H1 e1 z oq
    refine kk H1 _ (hR.put g1 g2 z oq g3 ?_) (hS.put z oq (ex_sh_ge g1))
    show H1[ex_sh B b o]? = some (vp_cell _ _)
    rw [e1, vp_cell_q, arrV_store]
    congr 2
    funext q
    by_cases hq : q = i.toNatClampNeg
    · subst hq
      simp [updV, va_up, va_rf]
    · simp [updV, va_up, hq]
  have key : ∀ (kA : Class) (comp : ClassId) (ty : FieldType) (cv : Cell) (kv : Class), s.vm.classes[dA t]? = some kA → kA.kind = .array comp ty → ty.isReference = true → H[ex_sh B b x]? = some cv → (∀ q, cv.vm ≠ .statics q) → cv.cls = comp → s.vm.classes[comp]? = some kv → W p l e R s m args below meth c H locs cells slots Q (F0 m pc ls (.ref (ex_sh B b x) :: .int i :: .ref (ex_sh B b o) :: rest)) := by
    intro kA comp ty cv kv k1 k2 k3 k4 k5 k6 k7
    exact W.aast hx hb g4 (fun q h => by cases h) (fun h => by cases h) k1 k2 k3 k7 ⟨h0, by rw [arrV_size]; exact hlt⟩ k4 k5 (by rw [k6]; exact k7) (by rw [k6]; exact va_asg _ _) rfl rfl hdg fin
  rcases hR.2.2.2.2 x _ hd with ⟨rfl, n', f', hc, q1, q2, q3⟩ | ⟨w1, w2, w3, w4⟩
  · subst hc
    simp [ex_may] at hm
  rcases d with ⟨u, nu, fu⟩ | ⟨⟨u, nu, fu⟩ | ⟨ci, fs⟩⟩
  · simp only [ex_may, Bool.and_eq_true, beq_iff_eq] at hm
    obtain ⟨rfl, rfl⟩ := hm
    obtain ⟨comp, cA, kA, a1, -, a3, a4, a5⟩ := arrayOverA_spec (hK.2.2.1 (.array .int) (by simp [ex_over]))
    have e0 : dA 0 = comp := Option.some.inj ((hK.1.2 0 _ rfl).2.symm.trans a1)
    have e2 : dA 2 = cA := Option.some.inj ((hK.1.2 2 _ rfl).2.symm.trans a5)
    obtain ⟨kc, hkc, -⟩ := Vm.findClass_spec a1
    exact key kA comp _ (arrV (dA 0) nu (fun j => .int (fu j))) kc (by rw [e2]; exact a3) a4 rfl w4 (fun q h => by cases h) e0 hkc
  · simp [ex_may] at hm
  · simp only [ex_may, Bool.or_eq_true, Bool.and_eq_true, beq_iff_eq] at hm
    obtain ⟨r, hr, cell, c1, c2, c3, -⟩ := w4
    have obj : ∀ (C : String) (T : u_T) (N : Nat), vwCl[ci]? = some (C, T, N) → va_RA s (dA t) (.object C) → W p l e R s m args below meth c H locs cells slots Q (F0 m pc ls (.ref (ex_sh B b x) :: .int i :: .ref (ex_sh B b o) :: rest)) := by
      intro C T N hcl hra
      obtain ⟨kA, comp, k1, k2, k3, -⟩ := hra
      obtain ⟨-, hfc, kC, hkC, -⟩ := hK.1.1 ci _ hcl
      have e0 : D.1 ci = comp := Option.some.inj (hfc.symm.trans k3)
      exact key kA comp _ cell kC k1 k2 rfl c1 (fun q h => by rw [c3] at h; cases h) (by rw [c2]; exact e0) (by rw [← e0]; exact hkC)
    rcases hm with (⟨rfl, rfl⟩ | ⟨rfl, rfl⟩) | ⟨rfl, rfl⟩
    · exact obj _ _ _ rfl (hK.1.2 3 _ rfl).2
    · exact obj _ _ _ rfl (hK.1.2 4 _ rfl).2
    · exact obj _ _ _ rfl (hK.1.2 5 _ rfl).2
end EXR
