/-! THE PURE MACHINE'S CELLS IN THE HEAP: the script at b, the others from B on. -/
def ex_sh (B b a : Nat) : Nat := if a = 0 then b else B + (a - 1)
def ex_sv (B b : Nat) (v : Value) : Value := match v with
  | .ref a => .ref (ex_sh B b a)
  | w => w
def ex_emb (dA : Nat → ClassId) (B b : Nat) (c : ex_AC) : va_E := match c with
  | .inl (t, n, f) => .inl (dA t, n, .inl f)
  | .inr (.inl (t, n, f)) => .inl (dA t, n, .inr (.inr (.inr (.inr (fun i => (f i).map (ex_sh B b))))))
  | .inr (.inr (ci, fs)) => .inr (ci, fs.map (ex_sv B b))
def ex_tag (c : ex_AC) : Prop := match c with
  | .inl (t, _, _) => t = 0 ∨ t = 1
  | .inr (.inl (t, _, _)) => t = 2 ∨ t = 3 ∨ t = 4 ∨ t = 5
  | .inr (.inr (ci, _)) => ci < 9
def ex_Scr (scr : Cell) (n : Nat) (f : Nat → Int32) : Prop := scr.vm ≠ .unknown ∧ scr.slots.size = n ∧ ∀ j : Nat, j < n → scr.slots[j]? = some (.int (f j))
def ex_Rep (D : va_G) (dA : Nat → ClassId) (B b : Nat) (scr : Cell) (h : ex_Hp) (H : Heap) : Prop :=
  1 ≤ h.1 ∧ H.size + 1 = B + h.1 ∧ b < B ∧ H[b]? = some scr ∧ ∀ (a : Nat) (c : ex_AC), h.2.2 a = some c → (a = 0 ∧ ∃ (n : Nat) (f : Nat → Int32), c = .inl (9, n, f) ∧ ex_Scr scr n f) ∨ (1 ≤ a ∧ a < h.1 ∧ ex_tag c ∧ va_at D vwCl (ex_sh B b a, ex_emb dA B b c) H)
def ex_tyl (dA : Nat → ClassId) : List (ClassId × FieldType) := [(dA 0, .int), (dA 1, .boolean), (dA 2, .array .int), (dA 3, .object RX1), (dA 4, .object RX5), (dA 5, .object RX7)]
def ex_over : List FieldType := [.array .int, .object RX1, .object RX5, .object RX7]
def ex_K (D : va_G) (dA : Nat → ClassId) (scr : Cell) (U : State) : Prop := va_K D vwCl (ex_tyl dA) U ∧ U.isArrayOf scr .int ∧ (∀ t ∈ ex_over, (Jvm.Cond.arrayOver t).before #[] U = true) ∧ va_Nw (.castable "[I" "java/lang/Cloneable") U ∧ ∀ w ∈ ex_nest, va_Nw w U
theorem ex_K.moved {D : va_G} {dA : Nat → ClassId} {scr : Cell} {s U : State} (hW : s.WarmedH U.vm) (h : ex_K D dA scr s) : ex_K D dA scr U := by
  obtain ⟨h1, h2, h3, h4, h5⟩ := h
  refine ⟨h1.moved hW.alike, State.isArrayOf_alike hW.alike h2, fun t ht => ?_, va_Nw.warmC hW h4, fun w hw => ?_⟩
  · have e := Cond.arrayOver_setVmC (args := #[]) hW.alike t
    exact e.trans (h3 t ht)
  · have hz := h5 w hw
    simp only [ex_nest, List.mem_cons, List.not_mem_nil, or_false] at hw
    rcases hw with rfl | rfl | rfl | rfl | rfl | rfl <;> exact va_Nw.warmM hW hz
theorem ex_K.same {D : va_G} {dA : Nat → ClassId} {scr : Cell} {s U : State} (hv : s.vm = U.vm) (h : ex_K D dA scr s) : ex_K D dA scr U := by
  obtain ⟨h1, h2, h3, h4, h5⟩ := h
  refine ⟨h1.moved (by rw [hv]; exact Vm.Alike.refl _), State.isArrayOf_alike (by rw [hv]; exact Vm.Alike.refl _) h2, fun t ht => ?_, va_Nw.same rfl hv h4, fun w hw => ?_⟩
  · have e := Cond.arrayOver_setVmC (args := #[]) (s := s) (vm' := U.vm) (by rw [hv]; exact Vm.Alike.refl _) t
    exact e.trans (h3 t ht)
  · have hz := h5 w hw
    simp only [ex_nest, List.mem_cons, List.not_mem_nil, or_false] at hw
    rcases hw with rfl | rfl | rfl | rfl | rfl | rfl <;> exact va_Nw.same rfl hv hz
def ex_gw : List Jvm.Cond := lw_tbl.filter goodWord
theorem ex_gw_of {w : Jvm.Cond} (h : ex_wb w = true) : w ∈ ex_gw := List.mem_filter.mpr (ex_wb_of h)
theorem ex_gw_good {w : Jvm.Cond} (h : w ∈ ex_gw) : (w.onTables && w.keeps) = true ∨ ∃ ty, w = .arrayClass ty := good_of_word (List.mem_filter.mp h).2
theorem ex_vw {ci : Nat} (h : ci < 9) : vwCl[ci]? = some (ex_T ci) := by
  unfold ex_T
  rw [List.getD_eq_getElem?_getD, List.getElem?_eq_getElem (show ci < vwCl.length from h)]
  rfl
theorem ex_vw_in {ci : Nat} (h : ci < 9) : ∀ w ∈ u_ws (ex_T ci).1 (ex_T ci).2.1 (ex_T ci).2.2, w ∈ ex_gw := fun w hw => by
  have h1 := List.all_eq_true.mp ex_lay_in _ (List.mem_of_getElem? (ex_vw h))
  exact ex_gw_of (List.all_eq_true.mp h1 w (List.mem_append_left _ hw))
theorem ex_vw_new {ci : Nat} (h : ci < 9) : Jvm.Cond.instantiable (ex_T ci).1 (ex_T ci).2.2 ∈ ex_gw ∧ Jvm.Cond.initialized (ex_T ci).1 ∈ ex_gw := by
  have h1 := List.all_eq_true.mp ex_lay_in _ (List.mem_of_getElem? (ex_vw h))
  exact ⟨ex_gw_of (List.all_eq_true.mp h1 _ (List.mem_append_right _ (by simp))), ex_gw_of (List.all_eq_true.mp h1 _ (List.mem_append_right _ (by simp)))⟩
theorem ex_nfN {ci : Nat} (h : ci < 9) : (ex_T ci).2.2 = ex_nf ci := by
  have : ∀ c, c < 9 → (ex_T c).2.2 = ex_nf c := by decide
  exact this ci h
theorem ex_tyok {ci : Nat} (h : ci < 9) : ∀ k, k < (ex_T ci).2.2 → parseFieldDescriptor ((ex_T ci).2.1 k).2.2.1 = some (ex_ty ci k) := fun k hk => by
  rw [ex_nfN h] at hk
  have h1 := List.all_eq_true.mp (List.all_eq_true.mp ex_ty_in ci (List.mem_range.mpr h)) k (List.mem_range.mpr hk)
  simp only [Bool.and_eq_true, decide_eq_true_eq] at h1
  exact h1.1
theorem ex_ndok {ci : Nat} (h : ci < 9) : ∀ a, a < (ex_T ci).2.2 → ∀ b, b < (ex_T ci).2.2 → a ≠ b → ((ex_T ci).2.1 a).2.1 ≠ ((ex_T ci).2.1 b).2.1 := fun a ha b hb hab => by
  rw [ex_nfN h] at ha hb
  have h1 := List.all_eq_true.mp (List.all_eq_true.mp (List.all_eq_true.mp ex_nd_in ci (List.mem_range.mpr h)) a (List.mem_range.mpr ha)) b (List.mem_range.mpr hb)
  simp only [Bool.or_eq_true, decide_eq_true_eq] at h1
  rcases h1 with h1 | h1
  · exact absurd h1 hab
  · exact h1
theorem ex_fit_ok {ty : FieldType} {v : Value} (B b : Nat) (h : ex_fit ty v = true) : narrow ty (ex_sv B b v) = ex_sv B b v ∧ fits ty (ex_sv B b v) = true := by
  cases ty <;> cases v <;> first | exact ⟨rfl, rfl⟩ | (simp [ex_fit] at h)
theorem ex_one {D : va_G} {q : Nat × va_E} {H : Heap} (h : va_at D vwCl q H) : va_P D vwCl [q] H := fun k x hk => by
  cases k with
  | zero => cases hk; exact h
  | succ k => simp at hk
theorem ex_sh_inj {B b a a' : Nat} (h1 : 1 ≤ a) (h2 : 1 ≤ a') (h : ex_sh B b a = ex_sh B b a') : a = a' := by
  unfold ex_sh at h
  rw [if_neg (by omega), if_neg (by omega)] at h
  omega
theorem ex_sh_ge {B b a : Nat} (h1 : 1 ≤ a) : B ≤ ex_sh B b a := by
  unfold ex_sh
  rw [if_neg (by omega)]
  omega
/-- a cell is written -/
theorem ex_Rep.put {D : va_G} {dA : Nat → ClassId} {B b : Nat} {scr : Cell} {h : ex_Hp} {H H' : Heap} (hR : ex_Rep D dA B b scr h H) {a : Nat} {c : ex_AC} (h1 : 1 ≤ a) (h2 : a < h.1) (hz : H'.size = H.size) (oq : ∀ q : Nat, q ≠ ex_sh B b a → H'[q]? = H[q]?) (ht : ex_tag c) (he : va_at D vwCl (ex_sh B b a, ex_emb dA B b c) H') : ex_Rep D dA B b scr (ex_set h a c) H' := by
  obtain ⟨r1, r2, r3, r4, r5⟩ := hR
  refine ⟨r1, by rw [hz]; exact r2, r3, by rw [oq b (by have := @ex_sh_ge B b a h1; omega)]; exact r4, fun a' c' hc => ?_⟩
  simp only [ex_set] at hc
  by_cases e : a' = a
  · subst e
    rw [if_pos rfl] at hc
    cases hc
    exact Or.inr ⟨h1, h2, ht, he⟩
  · rw [if_neg e] at hc
    rcases r5 a' c' hc with h | ⟨g1, g2, g3, g4⟩
    · exact Or.inl h
    · exact Or.inr ⟨g1, g2, g3, g4.kept (oq _ (fun z => e (ex_sh_inj g1 h1 z)))⟩
/-- a cell is made -/
theorem ex_Rep.push {D : va_G} {dA : Nat → ClassId} {B b : Nat} {scr : Cell} {h : ex_Hp} {H H' : Heap} (hR : ex_Rep D dA B b scr h H) {c : ex_AC} {k : Nat} (hz : H'.size = H.size + 1) (oq : ∀ q : Nat, q < H.size → H'[q]? = H[q]?) (ht : ex_tag c) (he : va_at D vwCl (H.size, ex_emb dA B b c) H') : ex_Rep D dA B b scr (ex_new h c k) H' := by
  obtain ⟨r1, r2, r3, r4, r5⟩ := hR
  refine ⟨by show 1 ≤ h.1 + 1; omega, by show H'.size + 1 = B + (h.1 + 1); omega, r3, by rw [oq b (by omega)]; exact r4, fun a' c' hc => ?_⟩
  simp only [ex_new] at hc
  by_cases e : a' = h.1
  · subst e
    rw [if_pos rfl] at hc
    cases hc
    refine Or.inr ⟨r1, by show h.1 < h.1 + 1; omega, ht, ?_⟩
    have e2 : ex_sh B b h.1 = H.size := by
      unfold ex_sh
      rw [if_neg (by omega)]
      omega
    rw [e2]
    exact he
  · rw [if_neg e] at hc
    rcases r5 a' c' hc with h | ⟨g1, g2, g3, g4⟩
    · exact Or.inl h
    · exact Or.inr ⟨g1, by show a' < h.1 + 1; omega, g3, g4.kept (oq _ g4.lt)⟩
theorem ex_top {D : va_G} {dA : Nat → ClassId} {B b : Nat} {scr : Cell} {h : ex_Hp} {H : Heap} (hR : ex_Rep D dA B b scr h H) : ex_sh B b h.1 = H.size := by
  obtain ⟨r1, r2, r3, r4, r5⟩ := hR
  unfold ex_sh
  rw [if_neg (by omega)]
  omega
theorem ex_ix_some {i : Int32} {n j : Nat} (h : ex_ix i n = some j) : vp_in i n ∧ i.toNatClampNeg = j := by
  unfold ex_ix at h
  by_cases g : i < 0 ∨ n ≤ i.toNatClampNeg
  · rw [if_pos g] at h; cases h
  · rw [if_neg g] at h; cases h; exact ⟨g, rfl⟩
theorem ex_rf (B b : Nat) (r : Option Nat) : va_rf (r.map (ex_sh B b)) = ex_sv B b (va_rf r) := by cases r <;> rfl
