/-! EVERY STEP OF THE PURE MACHINE IS ONE OF THE MACHINE'S. -/
def ex_L (B b : Nat) (ls : Array Slot) (nL : Nat) (L : List Value) : Prop := ls.size = nL ∧ lv_wf ls ∧ L.length = nL ∧ ∀ (i : Nat) (v : Value), L[i]? = some v → v.category = 1 → ls[i]? = some (.val (ex_sv B b v))
def ex_lv (B b : Nat) (L : List Value) : List (Nat × Value) := (L.zipIdx.filter (fun q => q.1.category == 1)).map (fun q => (q.2, ex_sv B b q.1))
theorem ex_sv_cat (B b : Nat) (v : Value) : (ex_sv B b v).category = v.category := by cases v <;> rfl
theorem ex_lv_mem {B b : Nat} {L : List Value} {i : Nat} {v : Value} (h : L[i]? = some v) (hc : v.category = 1) : (i, ex_sv B b v) ∈ ex_lv B b L :=
  List.mem_map.mpr ⟨(v, i), List.mem_filter.mpr ⟨List.mem_zipIdx_iff_getElem?.mpr h, by simpa using hc⟩, rfl⟩
theorem ex_lv_has {B b : Nat} {ls : Array Slot} {nL : Nat} {L : List Value} (h : ex_L B b ls nL L) : lv_has ls nL (ex_lv B b L) := by
  refine ⟨h.1, h.2.1, fun q hq => ?_⟩
  obtain ⟨x, hx, rfl⟩ := List.mem_map.mp hq
  obtain ⟨h1, h2⟩ := List.mem_filter.mp hx
  exact h.2.2.2 x.2 x.1 (List.mem_zipIdx_iff_getElem?.mp h1) (by simpa using h2)
theorem ex_L_set {B b : Nat} {ls ls' : Array Slot} {nL : Nat} {L : List Value} (h : ex_L B b ls nL L) {i : Nat} {v : Value} (hi : i < L.length) (h' : lv_has ls' nL ((i, ex_sv B b v) :: (ex_lv B b L).filter (fun q => !(q.1 == i) && !(q.1 + 1 == i && q.2.category == 2)))) : ex_L B b ls' nL (L.set i v) := by
  refine ⟨h'.1, h'.2.1, by rw [List.length_set]; exact h.2.2.1, fun j w hj hw => ?_⟩
  by_cases e : j = i
  · subst e
    rw [List.getElem?_set_self hi] at hj
    cases hj
    exact h'.2.2 (j, _) List.mem_cons_self
  · rw [List.getElem?_set_ne (Ne.symm e)] at hj
    refine h'.2.2 (j, ex_sv B b w) (List.mem_cons_of_mem _ (List.mem_filter.mpr ⟨ex_lv_mem hj hw, ?_⟩))
    simp [e, ex_sv_cat, hw]
theorem ex_fl_gw {e : Nat × Nat × Nat × Nat} (h : ex_fl.contains e = true) : ex_flc e ∈ ex_gw := ex_gw_of (List.all_eq_true.mp ex_fl_in e (List.contains_iff_mem.mp h))
theorem ex_cl_gw {e : Nat × Nat × String} (h : ex_cl.contains e = true) : ex_clc e ∈ ex_gw := ex_gw_of (List.all_eq_true.mp ex_cl_in e (List.contains_iff_mem.mp h))
theorem ex_ml_all {e : Nat × Nat × Nat × Nat} (h : ex_ml.contains e = true) : ex_mlc e = true := by
  have h1 := List.contains_iff_mem.mp h
  rw [← List.take_append_drop 70 ex_ml] at h1
  rcases List.mem_append.mp h1 with h2 | h2
  · exact List.all_eq_true.mp ex_ml_in1 e h2
  · rw [← List.take_append_drop 70 (ex_ml.drop 70), List.drop_drop] at h2
    rcases List.mem_append.mp h2 with h3 | h3
    · exact List.all_eq_true.mp ex_ml_in2 e h3
    · exact List.all_eq_true.mp ex_ml_in3 e h3
theorem ex_mk_all : ∀ y, y < 161 → ex_mk y = true := by
  intro y hy
  by_cases h0 : y < 41
  · exact List.all_eq_true.mp ex_mk_0 y (List.mem_range'_1.mpr ⟨by omega, by omega⟩)
  by_cases h1 : y < 82
  · exact List.all_eq_true.mp ex_mk_1 y (List.mem_range'_1.mpr ⟨by omega, by omega⟩)
  by_cases h2 : y < 123
  · exact List.all_eq_true.mp ex_mk_2 y (List.mem_range'_1.mpr ⟨by omega, by omega⟩)
  · exact List.all_eq_true.mp ex_mk_3 y (List.mem_range'_1.mpr ⟨by omega, by omega⟩)
section EXS
variable {p : Program} {l : Launch} {e : Env} {R : Room} {s : State} {m : MethodId} {args : Array Value} {below : List Frame} {meth : Method} {c : Code} {H : Heap} {locs : List Loc} {cells slots : Nat} {Q : State → Prop}
variable {D : va_G} {dA : Nat → ClassId} {B b : Nat} {scr : Cell} {cc : ByteArray} {pc len a cN y nL : Nat} {v : Int32} {ins : Instr} {ls : Array Slot} {h h' : ex_Hp} {L S L' S' : List Value}
theorem ex_s1 (hx : p.tables.exec = Jvm.exec) (hb : c.code = cc) (hdg : decode cc pc = .ok (ins, len)) (hok : ex_okA y pc ins len a cN v = true) (hst : ex_st1 ins a v L S = some (L', S')) (hL : ex_L B b ls nL L)
    (kk : ∀ ls' : Array Slot, ex_L B b ls' nL L' → W p l e R s m args below meth c H locs cells slots Q (F0 m (pc + len) ls' (S'.map (ex_sv B b)))) : W p l e R s m args below meth c H locs cells slots Q (F0 m pc ls (S.map (ex_sv B b))) := by
  have hlv := ex_lv_has hL
  unfold ex_st1 at hst
  split at hst
  · simp only [ex_okA, decide_eq_true_eq] at hok
    obtain ⟨rfl, hv⟩ := hok
    cases hst
    exact lv_iconst hx hb hdg hv (kk ls hL)
  · simp only [ex_okA, decide_eq_true_eq] at hok
    obtain ⟨rfl, hv⟩ := hok
    cases hst
    exact lv_bipush hx hb hdg hv (kk ls hL)
  · simp only [ex_okA, decide_eq_true_eq] at hok
    obtain ⟨rfl, hv⟩ := hok
    cases hst
    exact lv_sipush hx hb hdg hv (kk ls hL)
  · split at hst
    · rename_i x hLx
      cases hst
      simp only [ex_okA, decide_eq_true_eq] at hok
      obtain ⟨rfl, rfl⟩ := hok
      exact lv_iload hx hb hdg (hL.2.2.2 _ _ hLx rfl) (kk ls hL)
    · cases hst
  · split at hst
    · rename_i x hLx
      cases hst
      simp only [ex_okA, decide_eq_true_eq] at hok
      obtain ⟨rfl, rfl⟩ := hok
      exact lv_iload_n hx hb hdg rfl (hL.2.2.2 _ _ hLx rfl) (kk ls hL)
    · cases hst
  · split at hst
    · rename_i x hLx
      cases hst
      simp only [ex_okA, decide_eq_true_eq] at hok
      obtain ⟨rfl, rfl⟩ := hok
      exact lv_aload hx hb hdg (hL.2.2.2 _ _ hLx rfl) (kk ls hL)
    · rename_i hLx
      cases hst
      simp only [ex_okA, decide_eq_true_eq] at hok
      obtain ⟨rfl, rfl⟩ := hok
      exact lv_aloadN hx hb hdg (hL.2.2.2 _ _ hLx rfl) (kk ls hL)
    · cases hst
  · split at hst
    · rename_i x hLx
      cases hst
      simp only [ex_okA, decide_eq_true_eq] at hok
      obtain ⟨rfl, rfl⟩ := hok
      exact lv_aload_n hx hb hdg rfl (hL.2.2.2 _ _ hLx rfl) (kk ls hL)
    · rename_i hLx
      cases hst
      simp only [ex_okA, decide_eq_true_eq] at hok
      obtain ⟨rfl, rfl⟩ := hok
      exact lv_aload_nN hx hb hdg rfl (hL.2.2.2 _ _ hLx rfl) (kk ls hL)
    · cases hst
  · split at hst
    · split at hst
      · rename_i hlt
        cases hst
        simp only [ex_okA, decide_eq_true_eq] at hok
        obtain ⟨rfl, rfl⟩ := hok
        exact lv_istore hx hb hdg hlv (by rw [← hL.2.2.1]; exact hlt) rfl (fun ls' h9 => kk ls' (ex_L_set hL hlt h9))
      · cases hst
    · cases hst
  · split at hst
    · split at hst
      · rename_i hlt
        cases hst
        simp only [ex_okA, decide_eq_true_eq] at hok
        obtain ⟨rfl, rfl⟩ := hok
        exact lv_istore_n hx hb hdg rfl hlv (by rw [← hL.2.2.1]; exact hlt) rfl (fun ls' h9 => kk ls' (ex_L_set hL hlt h9))
      · cases hst
    · cases hst
  · split at hst
    · split at hst
      · rename_i hlt
        cases hst
        simp only [ex_okA, decide_eq_true_eq] at hok
        obtain ⟨rfl, rfl⟩ := hok
        exact lv_astore hx hb hdg hlv (by rw [← hL.2.2.1]; exact hlt) rfl (fun ls' h9 => kk ls' (ex_L_set hL hlt h9))
      · cases hst
    · split at hst
      · rename_i hlt
        cases hst
        simp only [ex_okA, decide_eq_true_eq] at hok
        obtain ⟨rfl, rfl⟩ := hok
        exact lv_astoreN hx hb hdg hlv (by rw [← hL.2.2.1]; exact hlt) rfl (fun ls' h9 => kk ls' (ex_L_set hL hlt h9))
      · cases hst
    · cases hst
  · split at hst
    · split at hst
      · rename_i hlt
        cases hst
        simp only [ex_okA, decide_eq_true_eq] at hok
        obtain ⟨rfl, rfl⟩ := hok
        exact lv_astore_n hx hb hdg rfl hlv (by rw [← hL.2.2.1]; exact hlt) rfl (fun ls' h9 => kk ls' (ex_L_set hL hlt h9))
      · cases hst
    · split at hst
      · rename_i hlt
        cases hst
        simp only [ex_okA, decide_eq_true_eq] at hok
        obtain ⟨rfl, rfl⟩ := hok
        exact lv_astore_nN hx hb hdg rfl hlv (by rw [← hL.2.2.1]; exact hlt) rfl (fun ls' h9 => kk ls' (ex_L_set hL hlt h9))
      · cases hst
    · cases hst
  · split at hst
    · rename_i x hLx
      cases hst
      simp only [ex_okA, decide_eq_true_eq] at hok
      obtain ⟨rfl, rfl, hv⟩ := hok
      have hlt := (List.getElem?_eq_some_iff.mp hLx).1
      obtain ⟨k, hk⟩ := List.getElem?_of_mem (ex_lv_mem (B := B) (b := b) hLx rfl)
      exact lv_iinc hx hb hdg hlv hk (by rw [hv]) (by rw [← hL.2.2.1]; exact hlt) rfl (fun ls' h9 => kk ls' (ex_L_set hL hlt h9))
    · cases hst
  · split at hst
    · cases hst
      simp only [ex_okA, decide_eq_true_eq] at hok
      subst hok
      exact lv_ineg hx hb hdg (kk ls hL)
    · cases hst
  · split at hst
    · cases hst
      simp only [ex_okA, decide_eq_true_eq] at hok
      subst hok
      exact lv_dup hx hb hdg rfl (kk ls hL)
    · cases hst
      simp only [ex_okA, decide_eq_true_eq] at hok
      subst hok
      exact lv_dup hx hb hdg rfl (kk ls hL)
    · cases hst
  · split at hst
    · cases hst
      simp only [ex_okA, decide_eq_true_eq] at hok
      subst hok
      exact lv_pop hx hb hdg rfl (kk ls hL)
    · cases hst
      simp only [ex_okA, decide_eq_true_eq] at hok
      subst hok
      exact lv_pop hx hb hdg rfl (kk ls hL)
    · cases hst
  · split at hst
    · split at hst
      · rename_i heq
        cases hst
        unfold ex_ari at heq
        split at heq
        · cases heq
          simp only [ex_okA, decide_eq_true_eq] at hok
          subst hok
          exact lv_iadd hx hb hdg (kk ls hL)
        · cases heq
          simp only [ex_okA, decide_eq_true_eq] at hok
          subst hok
          exact lv_isub hx hb hdg (kk ls hL)
        · cases heq
          simp only [ex_okA, decide_eq_true_eq] at hok
          subst hok
          exact lv_imul hx hb hdg (kk ls hL)
        · split at heq
          · cases heq
          · rename_i hne
            cases heq
            simp only [ex_okA, decide_eq_true_eq] at hok
            subst hok
            exact lv_idiv hx hb hdg hne (kk ls hL)
        · split at heq
          · cases heq
          · rename_i hne
            cases heq
            simp only [ex_okA, decide_eq_true_eq] at hok
            subst hok
            exact lv_irem hx hb hdg hne (kk ls hL)
        · cases heq
          simp only [ex_okA, decide_eq_true_eq] at hok
          subst hok
          exact lv_ishl hx hb hdg (kk ls hL)
        · cases heq
          simp only [ex_okA, decide_eq_true_eq] at hok
          subst hok
          exact lv_ishr hx hb hdg (kk ls hL)
        · cases heq
          simp only [ex_okA, decide_eq_true_eq] at hok
          subst hok
          exact lv_iand hx hb hdg (kk ls hL)
        · cases heq
          simp only [ex_okA, decide_eq_true_eq] at hok
          subst hok
          exact lv_ior hx hb hdg (kk ls hL)
        · cases heq
      · cases hst
    · cases hst
theorem ex_s2 (hx : p.tables.exec = Jvm.exec) (hb : c.code = cc) (hdg : decode cc pc = .ok (ins, len)) (hok : ex_okA y pc ins len a cN v = true) {q : Nat} (hst : ex_st2 ins pc len a S = some (q, S'))
    (kk : W p l e R s m args below meth c H locs cells slots Q (F0 m q ls (S'.map (ex_sv B b)))) : W p l e R s m args below meth c H locs cells slots Q (F0 m pc ls (S.map (ex_sv B b))) := by
  unfold ex_st2 at hst
  split at hst
  · split at hst
    · rename_i k off _ x S0
      cases hst
      simp only [ex_okA, decide_eq_true_eq] at hok
      obtain ⟨rfl, ht⟩ := hok
      cases k
      · exact lv_if_eq hx hb hdg ht (fun z => by rw [if_pos (by simp [ex_cmp, z])] at kk; exact kk) (fun z => by rw [if_neg (by simp [ex_cmp, z])] at kk; exact kk)
      · exact lv_if_ne hx hb hdg ht (fun z => by rw [if_pos (by simp [ex_cmp, z])] at kk; exact kk) (fun z => by rw [if_neg (by simp [ex_cmp, z])] at kk; exact kk)
      · exact lv_if_lt hx hb hdg ht (fun z => by rw [if_pos (by simp only [ex_cmp, decide_eq_true_eq]; exact z)] at kk; exact kk) (fun z => by rw [if_neg (by simp only [ex_cmp, decide_eq_true_eq]; exact z)] at kk; exact kk)
      · exact lv_if_ge hx hb hdg ht (fun z => by rw [if_pos (by simp only [ex_cmp, decide_eq_true_eq]; exact z)] at kk; exact kk) (fun z => by rw [if_neg (by simp only [ex_cmp, decide_eq_true_eq]; exact z)] at kk; exact kk)
      · exact lv_if_gt hx hb hdg ht (fun z => by rw [if_pos (by simp only [ex_cmp, decide_eq_true_eq]; exact z)] at kk; exact kk) (fun z => by rw [if_neg (by simp only [ex_cmp, decide_eq_true_eq]; exact z)] at kk; exact kk)
      · exact lv_if_le hx hb hdg ht (fun z => by rw [if_pos (by simp only [ex_cmp, decide_eq_true_eq]; exact z)] at kk; exact kk) (fun z => by rw [if_neg (by simp only [ex_cmp, decide_eq_true_eq]; exact z)] at kk; exact kk)
    · cases hst
  · split at hst
    · rename_i k off _ y1 x S0
      cases hst
      simp only [ex_okA, decide_eq_true_eq] at hok
      obtain ⟨rfl, ht⟩ := hok
      cases k
      · exact lv_icmp_eq hx hb hdg ht (fun z => by rw [if_pos (by simp only [ex_cmp, decide_eq_true_eq]; exact z)] at kk; exact kk) (fun z => by rw [if_neg (by simp only [ex_cmp, decide_eq_true_eq]; exact z)] at kk; exact kk)
      · exact lv_icmp_ne hx hb hdg ht (fun z => by rw [if_pos (by simp only [ex_cmp, decide_eq_true_eq]; exact z)] at kk; exact kk) (fun z => by rw [if_neg (by simp only [ex_cmp, decide_eq_true_eq]; exact fun g => g z)] at kk; exact kk)
      · exact lv_icmp_lt hx hb hdg ht (fun z => by rw [if_pos (by simp only [ex_cmp, decide_eq_true_eq]; exact z)] at kk; exact kk) (fun z => by rw [if_neg (by simp only [ex_cmp, decide_eq_true_eq]; exact z)] at kk; exact kk)
      · exact lv_icmp_ge hx hb hdg ht (fun z => by rw [if_pos (by simp only [ex_cmp, decide_eq_true_eq]; exact z)] at kk; exact kk) (fun z => by rw [if_neg (by simp only [ex_cmp, decide_eq_true_eq]; exact z)] at kk; exact kk)
      · exact lv_icmp_gt hx hb hdg ht (fun z => by rw [if_pos (by simp only [ex_cmp, decide_eq_true_eq]; exact z)] at kk; exact kk) (fun z => by rw [if_neg (by simp only [ex_cmp, decide_eq_true_eq]; exact z)] at kk; exact kk)
      · exact lv_icmp_le hx hb hdg ht (fun z => by rw [if_pos (by simp only [ex_cmp, decide_eq_true_eq]; exact z)] at kk; exact kk) (fun z => by rw [if_neg (by simp only [ex_cmp, decide_eq_true_eq]; exact z)] at kk; exact kk)
    · cases hst
  · cases hst
    simp only [ex_okA, decide_eq_true_eq] at hok
    obtain ⟨rfl, ht⟩ := hok
    exact lv_goto hx hb hdg ht kk
  · split at hst
    · cases hst
      simp only [ex_okA, decide_eq_true_eq] at hok
      obtain ⟨rfl, ht⟩ := hok
      exact lv_ifnullN hx hb hdg ht kk
    · cases hst
      simp only [ex_okA, decide_eq_true_eq] at hok
      obtain ⟨rfl, ht⟩ := hok
      exact lv_ifnull hx hb hdg kk
    · cases hst
  · split at hst
    · cases hst
      simp only [ex_okA, decide_eq_true_eq] at hok
      obtain ⟨rfl, ht⟩ := hok
      exact lv_ifnonnullN hx hb hdg kk
    · cases hst
      simp only [ex_okA, decide_eq_true_eq] at hok
      obtain ⟨rfl, ht⟩ := hok
      exact lv_ifnonnull hx hb hdg ht kk
    · cases hst
  · split at hst
    · simp only [ex_okA, Bool.and_eq_true, decide_eq_true_eq] at hok
      obtain ⟨ht, hall⟩ := hok
      split at hst
      · rename_i hout
        cases hst
        exact lv_tableOut hx hb hdg hout ht kk
      · rename_i hin
        split at hst
        · rename_i o ho
          cases hst
          have hpos := List.all_eq_true.mp hall o (Array.mem_toList_iff.mpr (Array.mem_of_getElem? ho))
          rw [decide_eq_true_eq] at hpos
          exact lv_tableIn hx hb hdg (fun z => hin (Or.inl z)) (fun z => hin (Or.inr z)) ho (by rw [Int.toNat_of_nonneg hpos]) kk
        · cases hst
    · cases hst
  · cases hst
end EXS
