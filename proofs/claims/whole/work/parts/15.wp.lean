/-! THE PURE MACHINE, goal first: ex_W y pc L S h X: from there the run comes to an end with X. -/
def ex_W (y pc : Nat) (L S : List Value) (h : ex_Hp) (X : Option Value → ex_Hp → Prop) : Prop := ∃ (n : Nat) (r : Option Value) (h' : ex_Hp), ex_run n y pc L S h = some (r, h') ∧ X r h'
theorem ex_mono : ∀ (n k y pc : Nat) (L S : List Value) (h : ex_Hp) (x : Option Value × ex_Hp), ex_run n y pc L S h = some x → ex_run (n + k) y pc L S h = some x := by
  intro n
  induction n with
  | zero => intro k y pc L S h x hr; cases hr
  | succ n ih =>
    intro k y pc L S h x hr
    rw [show n + 1 + k = (n + k) + 1 by omega]
    rw [ex_run] at hr ⊢
    try dsimp only at hr ⊢
    split at hr
    · rename_i hk
      split at hr
      · rename_i hc
        rw [if_pos hc]
        split at hr
        · rename_i r1 h1 hr1
          rw [ih k _ _ _ _ _ _ hr1]
          exact ih k _ _ _ _ _ _ hr
        · cases hr
      · cases hr
    · exact hr
    · split at hr
      · rename_i hs
        exact ih k _ _ _ _ _ _ hr
      · cases hr
theorem ex_step_kind {y pc : Nat} {L S : List Value} {h : ex_Hp} {q : ex_St} (hs : ex_step y pc L S h = some q) : ¬ ex_kind (ex_mo y pc).1 (ex_mo y pc).2.2.1 = 5 ∧ ¬ ex_kind (ex_mo y pc).1 (ex_mo y pc).2.2.1 = 6 := by
  unfold ex_step at hs
  try dsimp only at hs
  constructor
  · intro z
    rw [z] at hs
    cases hs
  · intro z
    rw [z] at hs
    cases hs
theorem ex_run_step {n y pc : Nat} {L S L' S' : List Value} {h h1 : ex_Hp} {pc' : Nat} (hs : ex_step y pc L S h = some (pc', L', S', h1)) : ex_run (n + 1) y pc L S h = ex_run n y pc' L' S' h1 := by
  obtain ⟨k5, k6⟩ := ex_step_kind hs
  rw [ex_run]
  try dsimp only
  split
  · rename_i z; exact absurd z k5
  · rename_i z; exact absurd z k6
  · rw [hs]
theorem w_st {y pc : Nat} {L S L' S' : List Value} {h h1 : ex_Hp} {pc' : Nat} {X : Option Value → ex_Hp → Prop} (hs : ex_step y pc L S h = some (pc', L', S', h1)) : ex_W y pc L S h X ↔ ex_W y pc' L' S' h1 X := by
  constructor
  · rintro ⟨n, r, h', hr, hX⟩
    cases n with
    | zero => cases hr
    | succ n =>
      rw [ex_run_step hs] at hr
      exact ⟨n, r, h', hr, hX⟩
  · rintro ⟨n, r, h', hr, hX⟩
    exact ⟨n + 1, r, h', by rw [ex_run_step hs]; exact hr, hX⟩
/-- no step: no end -/
theorem w_no {y pc : Nat} {L S : List Value} {h : ex_Hp} {X : Option Value → ex_Hp → Prop} (k5 : ¬ ex_kind (ex_mo y pc).1 (ex_mo y pc).2.2.1 = 5) (k6 : ¬ ex_kind (ex_mo y pc).1 (ex_mo y pc).2.2.1 = 6) (hs : ex_step y pc L S h = none) : ex_W y pc L S h X ↔ False := by
  constructor
  · rintro ⟨n, r, h', hr, hX⟩
    cases n with
    | zero => cases hr
    | succ n =>
      rw [ex_run] at hr
      try dsimp only at hr
      split at hr
      · rename_i z; exact absurd z k5
      · rename_i z; exact absurd z k6
      · rw [hs] at hr; cases hr
  · exact False.elim
theorem w_re {y pc : Nat} {L S : List Value} {h : ex_Hp} {r : Option Value} {X : Option Value → ex_Hp → Prop} (hk : ex_kind (ex_mo y pc).1 (ex_mo y pc).2.2.1 = 6) (he : ex_end y pc S = some r) : ex_W y pc L S h X ↔ X r h := by
  have key : ∀ n, ex_run (n + 1) y pc L S h = some (r, h) := by
    intro n
    simp only [ex_run, hk, he]
  constructor
  · rintro ⟨n, r', h', hr, hX⟩
    cases n with
    | zero => cases hr
    | succ n =>
      rw [key] at hr
      cases hr
      exact hX
  · intro hX
    exact ⟨1, r, h, key 0, hX⟩
theorem w_ca {y pc a cN nx : Nat} {ins : Instr} {len : Nat} {v : Int32} {L S A rest : List Value} {h : ex_Hp} {X : Option Value → ex_Hp → Prop} (hm : ex_mo y pc = (ins, len, a, cN, v)) (hk : ex_kind ins a = 5) (hnx : pc + len = nx) (hA : (S.take cN).reverse = A) (hr : S.drop cN = rest) (hl : cN ≤ S.length) (hc : (S.take cN).all (fun v => v.category == 1) = true) {L0 : List Value} (hL0 : ex_in a A = L0) :
    ex_W y pc L S h X ↔ ex_cat rest ≤ 8 ∧ ex_recv a A h = true ∧ ex_W a 0 L0 [] h (fun r h1 => ex_W y nx L (r.toList ++ rest) h1 X) := by
  subst hA
  subst hr
  subst hL0
  subst hnx
  constructor
  · rintro ⟨n, r, h', hrun, hX⟩
    cases n with
    | zero => cases hrun
    | succ n =>
      simp only [ex_run, hm, hk] at hrun
      split at hrun
      · rename_i hcond
        split at hrun
        · rename_i r1 h1 hr1
          exact ⟨hcond.2.1, hcond.2.2.2, n, r1, h1, hr1, n, r, h', hrun, hX⟩
        · cases hrun
      · cases hrun
  · rintro ⟨hc1, hc2, n, r1, h1, hr1, n2, r, h', hrun, hX⟩
    refine ⟨n + n2 + 1, r, h', ?_, hX⟩
    simp only [ex_run, hm, hk]
    rw [if_pos ⟨hl, hc1, hc, hc2⟩, ex_mono n n2 _ _ _ _ _ _ hr1]
    try dsimp only
    rw [Nat.add_comm n n2]
    exact ex_mono n2 n _ _ _ _ _ _ hrun
theorem w_imp {y pc : Nat} {L S : List Value} {h : ex_Hp} {X Y : Option Value → ex_Hp → Prop} (hXY : ∀ r h', X r h' → Y r h') (hw : ex_W y pc L S h X) : ex_W y pc L S h Y := by
  obtain ⟨n, r, h', hr, hX⟩ := hw
  exact ⟨n, r, h', hr, hXY r h' hX⟩
theorem w_br {y : Nat} {a b : Nat} {L S : List Value} {h : ex_Hp} {X : Option Value → ex_Hp → Prop} {p : Prop} [Decidable p] : ex_W y (if p then a else b) L S h X ↔ if p then ex_W y a L S h X else ex_W y b L S h X := by
  split <;> exact Iff.rfl
abbrev oU : Value := .long 0
def ex_g (h : ex_Hp) (a : Nat) : Option ex_AC := h.2.2 a
/-- an int[] -/
abbrev cI (n : Nat) (f : Nat → Int32) : ex_AC := .inl (0, n, f)
/-- a boolean[] -/
abbrev cZ (n : Nat) (f : Nat → Int32) : ex_AC := .inl (1, n, f)
abbrev cR (t n : Nat) (f : Nat → Option Nat) : ex_AC := .inr (.inl (t, n, f))
abbrev cO (ci : Nat) (fs : List Value) : ex_AC := .inr (.inr (ci, fs))
def ex_gf (c : Option ex_AC) (ci k : Nat) (F : Value → Prop) : Prop := match c with
  | some (.inr (.inr (c', fs))) => if c' = ci then match fs[k]? with
    | some v => F v
    | none => False
    else False
  | _ => False
def ex_pf (c : Option ex_AC) (ci k : Nat) (v : Value) (F : ex_AC → Prop) : Prop := match c with
  | some (.inr (.inr (c', fs))) => if c' = ci ∧ ex_fit (ex_ty ci k) v = true ∧ k < fs.length then F (.inr (.inr (c', fs.set k v))) else False
  | _ => False
def ex_xi (i : Int32) (n : Nat) (F : Nat → Prop) : Prop := if i < 0 ∨ n ≤ i.toNatClampNeg then False else F i.toNatClampNeg
def ex_al (c : Option ex_AC) (i : Int32) (F : Int32 → Prop) : Prop := match c with
  | some (.inl (t, n, f)) => if t = 0 ∨ t = 9 then ex_xi i n (fun j => F (f j)) else False
  | _ => False
def ex_zl (c : Option ex_AC) (i : Int32) (F : Int32 → Prop) : Prop := match c with
  | some (.inl (t, n, f)) => if t = 1 then ex_xi i n (fun j => F (f j)) else False
  | _ => False
def ex_as (c : Option ex_AC) (i x : Int32) (F : ex_AC → Prop) : Prop := match c with
  | some (.inl (t, n, f)) => if t = 0 then ex_xi i n (fun j => F (.inl (t, n, upd f j x))) else False
  | _ => False
def ex_zs (c : Option ex_AC) (i x : Int32) (F : ex_AC → Prop) : Prop := match c with
  | some (.inl (t, n, f)) => if t = 1 ∧ (x = 0 ∨ x = 1) then ex_xi i n (fun j => F (.inl (t, n, upd f j x))) else False
  | _ => False
def ex_rl (c : Option ex_AC) (i : Int32) (F : Value → Prop) : Prop := match c with
  | some (.inr (.inl (t, n, f))) => ex_xi i n (fun j => F (va_rf (f j)))
  | _ => False
def ex_rs (c d : Option ex_AC) (i : Int32) (x : Nat) (F : ex_AC → Prop) : Prop := match c, d with
  | some (.inr (.inl (t, n, f))), some d => if ex_may t d = true then ex_xi i n (fun j => F (.inr (.inl (t, n, va_up f j (some x))))) else False
  | _, _ => False
def ex_ln (c : Option ex_AC) (F : Int32 → Prop) : Prop := match c with
  | some (.inl (_, n, _)) => F (Int32.ofNat n)
  | some (.inr (.inl (_, n, _))) => F (Int32.ofNat n)
  | _ => False
section WK
variable {y pc len a c : Nat} {v : Int32} {ins : Instr} {L S : List Value} {h : ex_Hp} {X : Option Value → ex_Hp → Prop} {o : Nat} {i x : Int32}
theorem w_m3 (hk : ∀ a, ex_kind ins a = 3) (hm : ex_mo y pc = (ins, len, a, c, v)) : ex_W y pc L S h X ↔ match ex_st3 ins a c S h with | some (S', h') => ex_W y (pc + len) L S' h' X | none => False := by
  have h1 : ex_step y pc L S h = match ex_st3 ins a c S h with | some (S', h') => some (pc + len, L, S', h') | none => none := by
    simp only [ex_step, hm, hk]
    rfl
  cases hs : ex_st3 ins a c S h with
  | none =>
    rw [hs] at h1
    exact w_no (by rw [hm]; dsimp only; rw [hk]; decide) (by rw [hm]; dsimp only; rw [hk]; decide) h1
  | some q =>
    obtain ⟨S', h'⟩ := q
    rw [hs] at h1
    exact w_st h1
theorem w_m4 (hk : ex_kind ins a = 4) (hm : ex_mo y pc = (ins, len, a, c, v)) : ex_W y pc L S h X ↔ match ex_st4 ins a S h with | some (S', h') => ex_W y (pc + len) L S' h' X | none => False := by
  have h1 : ex_step y pc L S h = match ex_st4 ins a S h with | some (S', h') => some (pc + len, L, S', h') | none => none := by
    simp only [ex_step, hm, hk]
    rfl
  cases hs : ex_st4 ins a S h with
  | none =>
    rw [hs] at h1
    exact w_no (by rw [hm]; dsimp only; rw [hk]; decide) (by rw [hm]; dsimp only; rw [hk]; decide) h1
  | some q =>
    obtain ⟨S', h'⟩ := q
    rw [hs] at h1
    exact w_st h1
theorem ex_xi_ix {n : Nat} {F : Nat → Prop} : ex_xi i n F ↔ match ex_ix i n with | some j => F j | none => False := by
  unfold ex_xi ex_ix
  split <;> exact Iff.rfl
theorem w_getf {idx : Nat} {nx : Nat} (hm : ex_mo y pc = (.getfield idx, len, a, c, v)) (hn : pc + len = nx) : ex_W y pc L (.ref o :: S) h X ↔ ex_gf (ex_g h o) a c (fun w => ex_W y nx L (w :: S) h X) := by
  subst hn
  rw [w_m3 (fun _ => rfl) hm]
  simp only [ex_st3, ex_gf, ex_g]
  generalize h.2.2 o = z
  rcases z with _ | (⟨t, n, f⟩ | (⟨t, n, f⟩ | ⟨ci, fs⟩)) <;> try exact Iff.rfl
  dsimp only
  by_cases hc : ci = a
  · simp only [if_pos hc]
    cases fs[c]? <;> exact Iff.rfl
  · simp only [if_neg hc]
theorem w_putf {idx : Nat} {nx : Nat} {w : Value} (hm : ex_mo y pc = (.putfield idx, len, a, c, v)) (hn : pc + len = nx) : ex_W y pc L (w :: .ref o :: S) h X ↔ ex_pf (ex_g h o) a c w (fun d => ex_W y nx L S (ex_set h o d) X) := by
  subst hn
  rw [w_m3 (fun _ => rfl) hm]
  simp only [ex_st3, ex_pf, ex_g]
  generalize h.2.2 o = z
  rcases z with _ | (⟨t, n, f⟩ | (⟨t, n, f⟩ | ⟨ci, fs⟩)) <;> try exact Iff.rfl
  dsimp only
  by_cases hc : ci = a ∧ ex_fit (ex_ty a c) w = true ∧ c < fs.length
  · simp only [if_pos hc]
  · simp only [if_neg hc]
theorem w_iald {nx : Nat} (hm : ex_mo y pc = (.iaload, len, a, c, v)) (hn : pc + len = nx) : ex_W y pc L (.int i :: .ref o :: S) h X ↔ ex_al (ex_g h o) i (fun z => ex_W y nx L (.int z :: S) h X) := by
  subst hn
  rw [w_m3 (fun _ => rfl) hm]
  simp only [ex_st3, ex_al, ex_g]
  generalize h.2.2 o = z
  rcases z with _ | (⟨t, n, f⟩ | (⟨t, n, f⟩ | ⟨ci, fs⟩)) <;> try exact Iff.rfl
  dsimp only
  by_cases hc : t = 0 ∨ t = 9
  · simp only [if_pos hc, ex_xi_ix]
    cases ex_ix i n <;> exact Iff.rfl
  · simp only [if_neg hc]
theorem w_bald {nx : Nat} (hm : ex_mo y pc = (.baload, len, a, c, v)) (hn : pc + len = nx) : ex_W y pc L (.int i :: .ref o :: S) h X ↔ ex_zl (ex_g h o) i (fun z => ex_W y nx L (.int z :: S) h X) := by
  subst hn
  rw [w_m3 (fun _ => rfl) hm]
  simp only [ex_st3, ex_zl, ex_g]
  generalize h.2.2 o = z
  rcases z with _ | (⟨t, n, f⟩ | (⟨t, n, f⟩ | ⟨ci, fs⟩)) <;> try exact Iff.rfl
  dsimp only
  by_cases hc : t = 1
  · simp only [if_pos hc, ex_xi_ix]
    cases ex_ix i n <;> exact Iff.rfl
  · simp only [if_neg hc]
theorem w_iast {nx : Nat} (hm : ex_mo y pc = (.iastore, len, a, c, v)) (hn : pc + len = nx) : ex_W y pc L (.int x :: .int i :: .ref o :: S) h X ↔ ex_as (ex_g h o) i x (fun d => ex_W y nx L S (ex_set h o d) X) := by
  subst hn
  rw [w_m3 (fun _ => rfl) hm]
  simp only [ex_st3, ex_as, ex_g]
  generalize h.2.2 o = z
  rcases z with _ | (⟨t, n, f⟩ | (⟨t, n, f⟩ | ⟨ci, fs⟩)) <;> try exact Iff.rfl
  dsimp only
  by_cases hc : t = 0
  · simp only [if_pos hc, ex_xi_ix]
    cases ex_ix i n <;> exact Iff.rfl
  · simp only [if_neg hc]
theorem w_bast {nx : Nat} (hm : ex_mo y pc = (.bastore, len, a, c, v)) (hn : pc + len = nx) : ex_W y pc L (.int x :: .int i :: .ref o :: S) h X ↔ ex_zs (ex_g h o) i x (fun d => ex_W y nx L S (ex_set h o d) X) := by
  subst hn
  rw [w_m3 (fun _ => rfl) hm]
  simp only [ex_st3, ex_zs, ex_g]
  generalize h.2.2 o = z
  rcases z with _ | (⟨t, n, f⟩ | (⟨t, n, f⟩ | ⟨ci, fs⟩)) <;> try exact Iff.rfl
  dsimp only
  by_cases hc : t = 1 ∧ (x = 0 ∨ x = 1)
  · simp only [if_pos hc, ex_xi_ix]
    cases ex_ix i n <;> exact Iff.rfl
  · simp only [if_neg hc]
theorem w_aald {nx : Nat} (hm : ex_mo y pc = (.aaload, len, a, c, v)) (hn : pc + len = nx) : ex_W y pc L (.int i :: .ref o :: S) h X ↔ ex_rl (ex_g h o) i (fun w => ex_W y nx L (w :: S) h X) := by
  subst hn
  rw [w_m3 (fun _ => rfl) hm]
  simp only [ex_st3, ex_rl, ex_g]
  generalize h.2.2 o = z
  rcases z with _ | (⟨t, n, f⟩ | (⟨t, n, f⟩ | ⟨ci, fs⟩)) <;> try exact Iff.rfl
  dsimp only
  simp only [ex_xi_ix]
  cases ex_ix i n <;> exact Iff.rfl
theorem w_aast {nx z : Nat} (hm : ex_mo y pc = (.aastore, len, a, c, v)) (hn : pc + len = nx) : ex_W y pc L (.ref z :: .int i :: .ref o :: S) h X ↔ ex_rs (ex_g h o) (ex_g h z) i z (fun d => ex_W y nx L S (ex_set h o d) X) := by
  subst hn
  rw [w_m3 (fun _ => rfl) hm]
  simp only [ex_st3, ex_rs, ex_g]
  generalize h.2.2 o = q1
  generalize h.2.2 z = q2
  rcases q1 with _ | (⟨t, n, f⟩ | (⟨t, n, f⟩ | ⟨ci, fs⟩)) <;> try exact Iff.rfl
  cases q2 with
  | none => exact Iff.rfl
  | some d =>
    dsimp only
    by_cases hc : ex_may t d = true
    · simp only [if_pos hc, ex_xi_ix]
      cases ex_ix i n <;> exact Iff.rfl
    · simp only [if_neg hc]
theorem w_alen {nx : Nat} (hm : ex_mo y pc = (.arraylength, len, a, c, v)) (hn : pc + len = nx) : ex_W y pc L (.ref o :: S) h X ↔ ex_ln (ex_g h o) (fun z => ex_W y nx L (.int z :: S) h X) := by
  subst hn
  rw [w_m3 (fun _ => rfl) hm]
  simp only [ex_st3, ex_ln, ex_g]
  generalize h.2.2 o = z
  rcases z with _ | (⟨t, n, f⟩ | (⟨t, n, f⟩ | ⟨ci, fs⟩)) <;> exact Iff.rfl
end WK
