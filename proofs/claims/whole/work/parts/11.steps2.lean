section EXT
variable {p : Program} {l : Launch} {e : Env} {R : Room} {s : State} {m : MethodId} {args : Array Value} {below : List Frame} {meth : Method} {c : Code} {H : Heap} {locs : List Loc} {cells slots cells' slots' : Nat} {Q : State → Prop}
variable {D : va_G} {dA : Nat → ClassId} {B b : Nat} {scr : Cell} {pc len a cN y : Nat} {v : Int32} {ins : Instr} {ls : Array Slot} {h h' : ex_Hp} {S S' : List Value}
theorem ex_s3 (hx : p.tables.exec = Jvm.exec) (hb : c.code = ex_by y) (hts : ∀ w ∈ ex_gw, w.before args s = true) (hown : s.vm.findClass (ex_o (ex_ow y)) = some m.cls) (hK : ex_K D dA scr s) (hnm : (ex_nm y).name = "<init>" → meth.name = "<init>") (hR : ex_Rep D dA B b scr h H) (hS : va_S (fun q => B ≤ q) s.heap H locs) (hdg : decode (ex_by y) pc = .ok (ins, len)) (hok : ex_okA y pc ins len a cN v = true) (hst : ex_st3 ins a cN S h = some (S', h'))
    (kk : ∀ (H' : Heap) (locs' : List Loc), ex_Rep D dA B b scr h' H' → va_S (fun q => B ≤ q) s.heap H' locs' → W p l e R s m args below meth c H' locs' cells slots Q (F0 m (pc + len) ls (S'.map (ex_sv B b)))) : W p l e R s m args below meth c H locs cells slots Q (F0 m pc ls (S.map (ex_sv B b))) := by
  unfold ex_st3 at hst
  split at hst
  · split at hst
    · split at hst
      · rename_i o S0 ho0 ci fs ho
        split at hst
        · rename_i hci
          split at hst
          · rename_i v0 hv
            cases hst
            subst hci
            simp only [ex_okA, Bool.and_eq_true, decide_eq_true_eq] at hok
            obtain ⟨⟨rfl, h1, h2⟩, h3⟩ := hok
            exact ex_rget hx hb hts hown hK hR ho h1 h2 hv (ex_fl_gw h3) hdg (kk H locs hR hS)
          · cases hst
        · cases hst
      · cases hst
    · cases hst
  · split at hst
    · split at hst
      · rename_i v0 o S0 ho0 ci fs ho
        split at hst
        · rename_i hcond
          obtain ⟨hci, hfit, hlen⟩ := hcond
          cases hst
          subst hci
          simp only [ex_okA, Bool.and_eq_true, Bool.or_eq_true, Bool.not_eq_true', decide_eq_true_eq] at hok
          obtain ⟨⟨⟨rfl, h1, h2⟩, h3⟩, h4⟩ := hok
          exact ex_rput hx hb hts hown hK hR hS ho h1 h2 hfit hlen (ex_fl_gw h3) (h4.imp id (fun z => ⟨hnm z.1, z.2⟩)) hdg kk
        · cases hst
      · cases hst
    · cases hst
  · split at hst
    · split at hst
      · rename_i i o S0 ho0 t n f ho
        split at hst
        · rename_i ht
          split at hst
          · rename_i j hj
            cases hst
            simp only [ex_okA, decide_eq_true_eq] at hok
            subst hok
            exact ex_riald hx hb hK hR ho ht hj hdg (kk H locs hR hS)
          · cases hst
        · cases hst
      · cases hst
    · cases hst
  · split at hst
    · split at hst
      · rename_i i o S0 ho0 t n f ho
        split at hst
        · rename_i ht
          split at hst
          · rename_i j hj
            cases hst
            simp only [ex_okA, decide_eq_true_eq] at hok
            subst hok
            exact ex_rbald hx hb hK hR ho ht hj hdg (kk H locs hR hS)
          · cases hst
        · cases hst
      · cases hst
    · cases hst
  · split at hst
    · split at hst
      · rename_i x i o S0 ho0 t n f ho
        split at hst
        · rename_i ht
          split at hst
          · rename_i j hj
            cases hst
            simp only [ex_okA, decide_eq_true_eq] at hok
            subst hok
            exact ex_riast hx hb hK hR hS ho ht hj hdg kk
          · cases hst
        · cases hst
      · cases hst
    · cases hst
  · split at hst
    · split at hst
      · rename_i x i o S0 ho0 t n f ho
        split at hst
        · rename_i ht
          split at hst
          · rename_i j hj
            cases hst
            simp only [ex_okA, decide_eq_true_eq] at hok
            subst hok
            exact ex_rbast hx hb hK hR hS ho ht hj hdg kk
          · cases hst
        · cases hst
      · cases hst
    · cases hst
  · split at hst
    · split at hst
      · rename_i i o S0 ho0 t n f ho
        split at hst
        · rename_i j hj
          cases hst
          simp only [ex_okA, decide_eq_true_eq] at hok
          subst hok
          exact ex_raald hx hb hK hR ho hj hdg (kk H locs hR hS)
        · cases hst
      · cases hst
    · cases hst
  · split at hst
    · split at hst
      · rename_i x i o S0 ho0 hd0 t n f d ho hd
        split at hst
        · rename_i hm
          split at hst
          · rename_i j hj
            cases hst
            simp only [ex_okA, decide_eq_true_eq] at hok
            subst hok
            exact ex_raast hx hb hK hR hS ho hd hm hj hdg kk
          · cases hst
        · cases hst
      · cases hst
    · cases hst
  · split at hst
    · split at hst
      · rename_i o S0 ho0 t n f ho
        cases hst
        simp only [ex_okA, decide_eq_true_eq] at hok
        subst hok
        exact ex_ralen hx hb hK hR (Or.inl ⟨_, _, ho⟩) hdg (kk H locs hR hS)
      · rename_i o S0 ho0 t n f ho
        cases hst
        simp only [ex_okA, decide_eq_true_eq] at hok
        subst hok
        exact ex_ralen hx hb hK hR (Or.inr ⟨_, _, ho⟩) hdg (kk H locs hR hS)
      · cases hst
    · cases hst
  · split at hst
    · split at hst
      · rename_i o S0 ho0 t n f ho
        split at hst
        · rename_i ht
          cases hst
          simp only [ex_okA, Bool.and_eq_true, decide_eq_true_eq] at hok
          obtain ⟨rfl, h3⟩ := hok
          exact ex_rcast hx hb hts hown hK hR ho ht (ex_cl_gw h3) hdg (kk H locs hR hS)
        · cases hst
      · cases hst
    · cases hst
  · cases hst
theorem ex_sv_sum (B b : Nat) (S : List Value) : ((S.map (ex_sv B b)).map fun v => v.category).sum = ex_cat S := by
  unfold ex_cat
  rw [List.map_map]
  congr 1
  apply List.map_congr_left
  intro v _
  exact ex_sv_cat B b v
theorem ex_mlw {o i a k : Nat} (h : ex_ml.contains (o, i, a, k) = true) : Jvm.Cond.methodLink (ex_o o) i (ex_mn a) ∈ ex_gw ∨ Jvm.Cond.methodLinkNest (ex_o o) i (ex_mn a) RX8 ∈ ex_nest := by
  have h1 := ex_ml_all h
  unfold ex_mlc at h1
  rw [Bool.or_eq_true, decide_eq_true_eq] at h1
  exact h1.imp ex_gw_of id
theorem ex_nest_own {o : String} {i : Nat} {y : MethodName} (h : Jvm.Cond.methodLinkNest o i y RX8 ∈ ex_nest) : y.cls ≠ "java/lang/Object" ∧ y.cls ≠ "java/lang/System" ∧ y.cls ≠ "[I" ∧ y.cls ≠ "java/lang/Math" := by
  simp only [ex_nest, List.mem_cons, List.not_mem_nil, or_false, Jvm.Cond.methodLinkNest.injEq] at h
  rcases h with ⟨-, -, rfl, -⟩ | ⟨-, -, rfl, -⟩ | ⟨-, -, rfl, -⟩ | ⟨-, -, rfl, -⟩ | ⟨-, -, rfl, -⟩ | ⟨-, -, rfl, -⟩ <;> decide
theorem ex_s4 (hx : p.tables.exec = Jvm.exec) (hb : c.code = ex_by y) (hml : c.maxLocals = ls.size) (hts : ∀ w ∈ ex_gw, w.before args s = true) (hown : s.vm.findClass (ex_o (ex_ow y)) = some m.cls) (hK : ex_K D dA scr s) (hR : ex_Rep D dA B b scr h H) (hS : va_S (fun q => B ≤ q) s.heap H locs) (hfr : ex_fr y ≤ R.frames) (hlo : ex_lo y ≤ R.locals) (hdg : decode (ex_by y) pc = .ok (ins, len)) (hok : ex_okA y pc ins len a cN v = true) (hkd : ex_kind ins a = 4) (hst : ex_st4 ins a S h = some (S', h'))
    (e1 : cells' + h.1 = cells + h'.1) (e2 : slots' + h.2.1 = slots + h'.2.1) (b1 : cells' ≤ R.cells) (b2 : slots' ≤ R.slots)
    (kk : ∀ (H' : Heap) (locs' : List Loc), ex_Rep D dA B b scr h' H' → va_S (fun q => B ≤ q) s.heap H' locs' → W p l e R s m args below meth c H' locs' cells' slots' Q (F0 m (pc + len) ls (S'.map (ex_sv B b)))) : W p l e R s m args below meth c H locs cells slots Q (F0 m pc ls (S.map (ex_sv B b))) := by
  unfold ex_st4 at hst
  split at hst
  · cases hst
    simp only [ex_okA, Bool.and_eq_true, decide_eq_true_eq] at hok
    obtain ⟨⟨rfl, h1⟩, h3⟩ := hok
    obtain rfl : cells' = cells + 1 := by simp only [ex_new] at e1; omega
    obtain rfl : slots' = slots + ex_nf a := by simp only [ex_new] at e2; omega
    exact ex_rnew hx hb hts hown hK hR hS h1 (ex_cl_gw h3) b1 b2 hdg (fun H' r1 r2 => kk H' locs r1 r2)
  · split at hst
    · split at hst
      · cases hst
      · rename_i n S0 hn
        cases hst
        simp only [ex_okA, Bool.and_eq_true, Bool.or_eq_true, decide_eq_true_eq] at hok
        obtain ⟨rfl, h3⟩ := hok
        obtain rfl : cells' = cells + 1 := by simp only [ex_new] at e1; omega
        obtain rfl : slots' = slots + n.toNatClampNeg := by simp only [ex_new] at e2; omega
        exact ex_rnewa hx hb hts hK hR hS h3 hn b1 b2 hdg (fun H' r1 r2 => kk H' locs r1 r2)
    · cases hst
  · split at hst
    · split at hst
      · cases hst
      · rename_i n S0 hn
        cases hst
        simp only [ex_okA, Bool.and_eq_true, Bool.or_eq_true, decide_eq_true_eq] at hok
        obtain ⟨rfl, h3⟩ := hok
        obtain rfl : cells' = cells + 1 := by simp only [ex_new] at e1; omega
        obtain rfl : slots' = slots + n.toNatClampNeg := by simp only [ex_new] at e2; omega
        rcases h3 with (⟨rfl, h3⟩ | ⟨rfl, h3⟩) | ⟨rfl, h3⟩
        · exact ex_ranew hx hb hts hown hK hR hS (Or.inl ⟨rfl, rfl⟩) (ex_cl_gw h3) hn b1 b2 hdg (fun H' r1 r2 => kk H' locs r1 r2)
        · exact ex_ranew hx hb hts hown hK hR hS (Or.inr (Or.inl ⟨rfl, rfl⟩)) (ex_cl_gw h3) hn b1 b2 hdg (fun H' r1 r2 => kk H' locs r1 r2)
        · exact ex_ranew hx hb hts hown hK hR hS (Or.inr (Or.inr ⟨rfl, rfl⟩)) (ex_cl_gw h3) hn b1 b2 hdg (fun H' r1 r2 => kk H' locs r1 r2)
    · cases hst
  · split at hst
    · split at hst
      · cases hst
      · rename_i k n S0 hn
        cases hst
        simp only [ex_okA, Bool.and_eq_true, decide_eq_true_eq] at hok
        obtain ⟨⟨rfl, rfl⟩, h3⟩ := hok
        simp only [ex_new2] at e1 e2
        obtain rfl : cells' = cells + 1 + n.toNatClampNeg := by omega
        obtain rfl : slots' = slots + n.toNatClampNeg + n.toNatClampNeg * k.toNatClampNeg := by omega
        exact ex_rmna hx hb hts hown hK hR hS (ex_cl_gw h3) hn (by omega) (by omega) hdg (fun H' r1 r2 => kk H' locs r1 r2)
    · cases hst
  · split at hst
    · split at hst
      · rename_i hrest
        cases hst
        simp only [ex_kind] at hkd
        have ha : ¬ a < 1000 := fun z => by rw [if_pos z] at hkd; cases hkd
        simp only [ex_okA, Bool.and_eq_true, if_neg ha, decide_eq_true_eq] at hok
        obtain ⟨⟨rfl, h3⟩, rfl, h4, h5⟩ := hok
        obtain rfl : cells' = cells := by omega
        obtain rfl : slots' = slots := by omega
        rcases ex_mlw h3 with h6 | h6
        · refine W.objInit hx hb hown (hts _ h6) (hts _ (ex_gw_of ex_obj_in.1)) (hts _ (ex_gw_of ex_obj_in.2)) rfl hml.symm rfl hdg (by omega) ?_ (kk H locs hR hS)
          have := ex_sv_sum B b S'
          show 2 * 0 + _ + 12 ≤ R.locals
          rw [this]
          omega
        · exact absurd rfl (ex_nest_own h6).1
      · cases hst
    · cases hst
  · split at hst
    · rename_i ha3
      split at hst
      · split at hst
        · rename_i hrest
          cases hst
          subst ha3
          simp only [ex_okA, Bool.and_eq_true, if_neg (show ¬ (1003 : Nat) < 1000 by decide), decide_eq_true_eq] at hok
          obtain ⟨⟨rfl, h3⟩, -, h4, -, h5⟩ := hok
          obtain rfl : cells' = cells := by omega
          obtain rfl : slots' = slots := by omega
          rcases ex_mlw h3 with h6 | h6
          · refine va_mmin hx hb hml hown (hts _ h6) (hts _ (ex_gw_of ex_min_in.1)) (hts _ (ex_gw_of ex_min_in.2.1)) (hts _ (ex_gw_of ex_min_in.2.2)) (by omega) ?_ b1 b2 hdg (kk H locs hR hS)
            rw [ex_sv_sum]
            omega
          · exact absurd rfl (ex_nest_own h6).2.2.2
        · cases hst
      · cases hst
    · rename_i ha3
      split at hst
      · split at hst
        · rename_i n dp d sp o S0 ho0 hd0 t0 n0 f t1 n1 g ho hd
          split at hst
          · rename_i hcond
            obtain ⟨hrest, rfl, rfl, z1, z2, z3, z4, z5⟩ := hcond
            cases hst
            simp only [ex_kind] at hkd
            have ha : ¬ a < 1000 := fun z => by rw [if_pos z] at hkd; cases hkd
            simp only [ex_okA, Bool.and_eq_true, if_neg ha, decide_eq_true_eq] at hok
            obtain ⟨⟨rfl, h3⟩, h7, h4, h8, h5⟩ := hok
            obtain rfl : a = 1001 := by omega
            obtain rfl : cells' = cells := by simp only [ex_set] at e1; omega
            obtain rfl : slots' = slots := by simp only [ex_set] at e2; omega
            have h8 := h8 rfl
            rcases ex_mlw h3 with h6 | h6
            · refine ex_rcopy hx hb hml hts hown h6 hK hR hS ho hd z1 z2 z3 z4 z5 (by omega) ?_ hdg kk
              rw [ex_sv_sum]
              show _ + (7 + 11) ≤ _
              omega
            · exact absurd rfl (ex_nest_own h6).2.1
          · cases hst
        · cases hst
      · cases hst
  · split at hst
    · split at hst
      · rename_i o S0 ho0 t n f ho
        split at hst
        · rename_i hcond
          obtain ⟨rfl, hrest⟩ := hcond
          cases hst
          simp only [ex_kind] at hkd
          have ha : ¬ a < 1000 := fun z => by rw [if_pos z] at hkd; cases hkd
          simp only [ex_okA, Bool.and_eq_true, if_neg ha, decide_eq_true_eq] at hok
          obtain ⟨⟨rfl, h3⟩, rfl, h4, h5⟩ := hok
          obtain rfl : cells' = cells + 1 := by simp only [ex_new] at e1; omega
          obtain rfl : slots' = slots + n := by simp only [ex_new] at e2; omega
          rcases ex_mlw h3 with h6 | h6
          · refine ex_rclone hx hb hml hts hown h6 hK hR hS ho (by omega) ?_ b1 b2 hdg (fun H' r1 r2 => kk H' locs r1 r2)
            rw [ex_sv_sum]
            omega
          · exact absurd rfl (ex_nest_own h6).2.2.1
        · cases hst
      · cases hst
    · cases hst
  · cases hst
end EXT
