/-! THE PURE MACHINE: cells are told by small numbers; 0 is the script, 1 the first cell that the law makes, and so on. -/
/-- int[] 0, boolean[] 1, the script 9; rows of references: int[][] 2, Diagrams[] 3, State[] 4, Texts[] 5; an object: its class (a place in vwCl) and its fields -/
abbrev ex_AC : Type := (Nat × Nat × (Nat → Int32)) ⊕ ((Nat × Nat × (Nat → Option Nat)) ⊕ (Nat × List Value))
/-- how many cells, slots; the cells -/
abbrev ex_Hp : Type := Nat × Nat × (Nat → Option ex_AC)
def ex_set (h : ex_Hp) (a : Nat) (c : ex_AC) : ex_Hp := (h.1, h.2.1, fun q => if q = a then some c else h.2.2 q)
def ex_new (h : ex_Hp) (c : ex_AC) (k : Nat) : ex_Hp := (h.1 + 1, h.2.1 + k, fun q => if q = h.1 then some c else h.2.2 q)
def ex_new2 (h : ex_Hp) (N K : Nat) : ex_Hp := (h.1 + 1 + N, h.2.1 + (N + N * K), fun q => if q = h.1 then some (.inr (.inl (2, N, fun i => if i < N then some (h.1 + 1 + i) else none))) else if h.1 < q ∧ q < h.1 + 1 + N then some (.inl (0, K, fun _ => 0)) else h.2.2 q)
def ex_tys : List (Nat → FieldType) := [tyX0, tyX1, tyX3, tyX4, tyX5, tyX6, tyX7, tyX8, tyX9]
def ex_ty (ci k : Nat) : FieldType := (ex_tys.getD ci tyX2) k
def ex_nf (ci : Nat) : Nat := ([3, 12, 3, 2, 3, 4, 7, 6, 27] : List Nat).getD ci 0
def ex_dfl (ci : Nat) : List Value := (List.range (ex_nf ci)).map (fun k => defaultValue (ex_ty ci k))
def ex_fit : FieldType → Value → Bool
  | .int, .int _ => true
  | .object _, .ref _ => true
  | .object _, .null => true
  | .array _, .ref _ => true
  | .array _, .null => true
  | _, _ => false
def ex_cmp (k : Jvm.ClassFile.Cond) (x y : Int32) : Bool := match k with
  | .eq => decide (x = y)
  | .ne => decide (¬ x = y)
  | .lt => decide (x < y)
  | .ge => decide (y ≤ x)
  | .gt => decide (y < x)
  | .le => decide (x ≤ y)
def ex_ari (ins : Instr) (x y : Int32) : Option Int32 := match ins with
  | .iadd => some (x + y)
  | .isub => some (x - y)
  | .imul => some (x * y)
  | .idiv => if y = 0 then none else some (x / y)
  | .irem => if y = 0 then none else some (x - x / y * y)
  | .ishl => some (x <<< (y &&& 31))
  | .ishr => some (x >>> (y &&& 31))
  | .iand => some (x &&& y)
  | .ior => some (x ||| y)
  | _ => none
/-- an index: its place, if it is within -/
def ex_ix (i : Int32) (n : Nat) : Option Nat := if i < 0 ∨ n ≤ i.toNatClampNeg then none else some i.toNatClampNeg
/-- what class an element of a row of references must have -/
def ex_may (t : Nat) (c : ex_AC) : Bool := match c with
  | .inl (u, _, _) => t == 2 && u == 0
  | .inr (.inr (ci, _)) => (t == 3 && ci == 1) || (t == 4 && ci == 4) || (t == 5 && ci == 6)
  | _ => false
/-- how many words a part of the stack has -/
def ex_cat (S : List Value) : Nat := (S.map fun v => v.category).sum
abbrev ex_St : Type := Nat × List Value × List Value × ex_Hp
/-- loads, stores, constants, arithmetic -/
def ex_st1 (ins : Instr) (a : Nat) (v : Int32) (L S : List Value) : Option (List Value × List Value) := match ins with
  | .iconst _ => some (L, .int v :: S)
  | .bipush _ => some (L, .int v :: S)
  | .sipush _ => some (L, .int v :: S)
  | .iload _ => match L[a]? with
    | some (.int x) => some (L, .int x :: S)
    | _ => none
  | .iload_n _ => match L[a]? with
    | some (.int x) => some (L, .int x :: S)
    | _ => none
  | .aload _ => match L[a]? with
    | some (.ref x) => some (L, .ref x :: S)
    | some .null => some (L, .null :: S)
    | _ => none
  | .aload_n _ => match L[a]? with
    | some (.ref x) => some (L, .ref x :: S)
    | some .null => some (L, .null :: S)
    | _ => none
  | .istore _ => match S with
    | .int x :: S' => if a < L.length then some (L.set a (.int x), S') else none
    | _ => none
  | .istore_n _ => match S with
    | .int x :: S' => if a < L.length then some (L.set a (.int x), S') else none
    | _ => none
  | .astore _ => match S with
    | .ref x :: S' => if a < L.length then some (L.set a (.ref x), S') else none
    | .null :: S' => if a < L.length then some (L.set a .null, S') else none
    | _ => none
  | .astore_n _ => match S with
    | .ref x :: S' => if a < L.length then some (L.set a (.ref x), S') else none
    | .null :: S' => if a < L.length then some (L.set a .null, S') else none
    | _ => none
  | .iinc _ _ => match L[a]? with
    | some (.int x) => some (L.set a (.int (x + v)), S)
    | _ => none
  | .ineg => match S with
    | .int x :: S' => some (L, .int (-x) :: S')
    | _ => none
  | .dup => match S with
    | .int x :: S' => some (L, .int x :: .int x :: S')
    | .ref x :: S' => some (L, .ref x :: .ref x :: S')
    | _ => none
  | .pop => match S with
    | .int x :: S' => some (L, S')
    | .ref x :: S' => some (L, S')
    | _ => none
  | _ => match S with
    | .int y :: .int x :: S' => match ex_ari ins x y with
      | some z => some (L, .int z :: S')
      | none => none
    | _ => none
/-- where a branch goes; what is left on the stack -/
def ex_st2 (ins : Instr) (pc len a : Nat) (S : List Value) : Option (Nat × List Value) := match ins with
  | .ifCond k _ => match S with
    | .int x :: S' => some (if ex_cmp k x 0 = true then a else pc + len, S')
    | _ => none
  | .if_icmp k _ => match S with
    | .int y :: .int x :: S' => some (if ex_cmp k x y = true then a else pc + len, S')
    | _ => none
  | .goto _ => some (a, S)
  | .ifnull _ => match S with
    | .null :: S' => some (a, S')
    | .ref _ :: S' => some (pc + len, S')
    | _ => none
  | .ifnonnull _ => match S with
    | .null :: S' => some (pc + len, S')
    | .ref _ :: S' => some (a, S')
    | _ => none
  | .tableswitch _ lo hi offs => match S with
    | .int x :: S' => if x.toInt < lo ∨ hi < x.toInt then some (a, S') else match offs[(x.toInt - lo).toNat]? with
      | some o => some (((pc : Int) + o).toNat, S')
      | none => none
    | _ => none
  | _ => none
/-- reads and writes of cells -/
def ex_st3 (ins : Instr) (a c : Nat) (S : List Value) (h : ex_Hp) : Option (List Value × ex_Hp) := match ins with
  | .getfield _ => match S with
    | .ref o :: S' => match h.2.2 o with
      | some (.inr (.inr (ci, fs))) => if ci = a then match fs[c]? with
        | some v => some (v :: S', h)
        | none => none
        else none
      | _ => none
    | _ => none
  | .putfield _ => match S with
    | v :: .ref o :: S' => match h.2.2 o with
      | some (.inr (.inr (ci, fs))) => if ci = a ∧ ex_fit (ex_ty a c) v = true ∧ c < fs.length then some (S', ex_set h o (.inr (.inr (ci, fs.set c v)))) else none
      | _ => none
    | _ => none
  | .iaload => match S with
    | .int i :: .ref o :: S' => match h.2.2 o with
      | some (.inl (t, n, f)) => if t = 0 ∨ t = 9 then match ex_ix i n with
        | some j => some (.int (f j) :: S', h)
        | none => none
        else none
      | _ => none
    | _ => none
  | .baload => match S with
    | .int i :: .ref o :: S' => match h.2.2 o with
      | some (.inl (t, n, f)) => if t = 1 then match ex_ix i n with
        | some j => some (.int (f j) :: S', h)
        | none => none
        else none
      | _ => none
    | _ => none
  | .iastore => match S with
    | .int x :: .int i :: .ref o :: S' => match h.2.2 o with
      | some (.inl (t, n, f)) => if t = 0 then match ex_ix i n with
        | some j => some (S', ex_set h o (.inl (t, n, upd f j x)))
        | none => none
        else none
      | _ => none
    | _ => none
  | .bastore => match S with
    | .int x :: .int i :: .ref o :: S' => match h.2.2 o with
      | some (.inl (t, n, f)) => if t = 1 ∧ (x = 0 ∨ x = 1) then match ex_ix i n with
        | some j => some (S', ex_set h o (.inl (t, n, upd f j x)))
        | none => none
        else none
      | _ => none
    | _ => none
  | .aaload => match S with
    | .int i :: .ref o :: S' => match h.2.2 o with
      | some (.inr (.inl (t, n, f))) => match ex_ix i n with
        | some j => some (va_rf (f j) :: S', h)
        | none => none
      | _ => none
    | _ => none
  | .aastore => match S with
    | .ref x :: .int i :: .ref o :: S' => match h.2.2 o, h.2.2 x with
      | some (.inr (.inl (t, n, f))), some d => if ex_may t d = true then match ex_ix i n with
        | some j => some (S', ex_set h o (.inr (.inl (t, n, va_up f j (some x)))))
        | none => none
        else none
      | _, _ => none
    | _ => none
  | .arraylength => match S with
    | .ref o :: S' => match h.2.2 o with
      | some (.inl (_, n, _)) => some (.int (Int32.ofNat n) :: S', h)
      | some (.inr (.inl (_, n, _))) => some (.int (Int32.ofNat n) :: S', h)
      | _ => none
    | _ => none
  | .checkcast _ => match S with
    | .ref o :: S' => match h.2.2 o with
      | some (.inl (t, n, f)) => if t = 0 then some (.ref o :: S', h) else none
      | _ => none
    | _ => none
  | _ => none
/-- makings, and calls of what isn't the claim's own -/
def ex_st4 (ins : Instr) (a : Nat) (S : List Value) (h : ex_Hp) : Option (List Value × ex_Hp) := match ins with
  | .new _ => some (.ref h.1 :: S, ex_new h (.inr (.inr (a, ex_dfl a))) (ex_nf a))
  | .newarray _ => match S with
    | .int n :: S' => if n < 0 ∨ 100000 < n.toNatClampNeg then none else some (.ref h.1 :: S', ex_new h (.inl (a, n.toNatClampNeg, fun _ => 0)) n.toNatClampNeg)
    | _ => none
  | .anewarray _ => match S with
    | .int n :: S' => if n < 0 ∨ 100000 < n.toNatClampNeg then none else some (.ref h.1 :: S', ex_new h (.inr (.inl (a, n.toNatClampNeg, fun _ => none))) n.toNatClampNeg)
    | _ => none
  | .multianewarray _ _ => match S with
    | .int k :: .int n :: S' => if n < 0 ∨ 100000 < n.toNatClampNeg ∨ k < 0 ∨ 100000 < k.toNatClampNeg then none else some (.ref h.1 :: S', ex_new2 h n.toNatClampNeg k.toNatClampNeg)
    | _ => none
  | .invokespecial _ => match S with
    | .ref _ :: S' => if ex_cat S' ≤ 8 then some (S', h) else none
    | _ => none
  | .invokestatic _ => if a = 1003 then (match S with
    | .int y :: .int x :: S' => if ex_cat S' ≤ 8 then some (.int (if y < x then y else x) :: S', h) else none
    | _ => none) else match S with
    | .int n :: .int dp :: .ref d :: .int sp :: .ref o :: S' => match h.2.2 o, h.2.2 d with
      | some (.inl (t0, n0, f)), some (.inl (t1, n1, g)) => if ex_cat S' ≤ 8 ∧ t0 = 0 ∧ t1 = 0 ∧ ¬ sp < 0 ∧ ¬ dp < 0 ∧ ¬ n < 0 ∧ sp.toNatClampNeg + n.toNatClampNeg ≤ n0 ∧ dp.toNatClampNeg + n.toNatClampNeg ≤ n1 then
          some (S', ex_set h d (.inl (t1, n1, va_cpy f g sp.toNatClampNeg dp.toNatClampNeg n.toNatClampNeg))) else none
      | _, _ => none
    | _ => none
  | .invokevirtual _ => match S with
    | .ref o :: S' => match h.2.2 o with
      | some (.inl (t, n, f)) => if t = 0 ∧ ex_cat S' ≤ 8 then some (.ref h.1 :: S', ex_new h (.inl (t, n, f)) n) else none
      | _ => none
    | _ => none
  | _ => none
/-- 1 loads and arithmetic, 2 branches, 3 cells, 4 makings, 5 own calls, 6 ends -/
def ex_kind (ins : Instr) (a : Nat) : Nat := match ins with
  | .ifCond _ _ => 2
  | .if_icmp _ _ => 2
  | .goto _ => 2
  | .ifnull _ => 2
  | .ifnonnull _ => 2
  | .tableswitch _ _ _ _ => 2
  | .getfield _ => 3
  | .putfield _ => 3
  | .iaload => 3
  | .baload => 3
  | .iastore => 3
  | .bastore => 3
  | .aaload => 3
  | .aastore => 3
  | .arraylength => 3
  | .checkcast _ => 3
  | .new _ => 4
  | .newarray _ => 4
  | .anewarray _ => 4
  | .multianewarray _ _ => 4
  | .invokespecial _ => if a < 1000 then 5 else 4
  | .invokestatic _ => if a < 1000 then 5 else 4
  | .invokevirtual _ => if a < 1000 then 5 else 4
  | .ireturn => 6
  | .areturn => 6
  | .return_ => 6
  | _ => 1
def ex_mo (y pc : Nat) : ex_MO := (ex_codes.getD y []).getD pc ex_no
def ex_step (y pc : Nat) (L S : List Value) (h : ex_Hp) : Option ex_St :=
  let o := ex_mo y pc
  match ex_kind o.1 o.2.2.1 with
  | 1 => match ex_st1 o.1 o.2.2.1 o.2.2.2.2 L S with
    | some (L', S') => some (pc + o.2.1, L', S', h)
    | none => none
  | 2 => match ex_st2 o.1 pc o.2.1 o.2.2.1 S with
    | some (q, S') => some (q, L, S', h)
    | none => none
  | 3 => match ex_st3 o.1 o.2.2.1 o.2.2.2.1 S h with
    | some (S', h') => some (pc + o.2.1, L, S', h')
    | none => none
  | 4 => match ex_st4 o.1 o.2.2.1 S h with
    | some (S', h') => some (pc + o.2.1, L, S', h')
    | none => none
  | _ => none
/-- what a method hands back -/
def ex_end (y pc : Nat) (S : List Value) : Option (Option Value) :=
  let o := ex_mo y pc
  match o.1 with
  | .ireturn => match S with
    | [.int x] => if o.2.2.1 = 0 ∨ x = 0 ∨ x = 1 then some (some (.int x)) else none
    | _ => none
  | .areturn => match S with
    | [.ref x] => some (some (.ref x))
    | _ => none
  | .return_ => match S with
    | [] => some none
    | _ => none
  | _ => none
def ex_no_mt : ex_MT := (yL_law, cL_law, 4, none, 0, 0, 0, 0)
def ex_m (y : Nat) : ex_MT := ex_mt.getD y ex_no_mt
/-- the locals at a method's entry -/
def ex_in (y : Nat) (args : List Value) : List Value := args ++ List.replicate ((ex_m y).2.2.1 - args.length) (.long 0)
/-- the receiver is of the method's class -/
def ex_recv (y : Nat) (A : List Value) (h : ex_Hp) : Bool := match ex_kd y with
  | 0 => true
  | 1 => match A with
    | .ref o :: _ => match h.2.2 o with
      | some (.inr (.inr (ci, _))) => decide (ci = ex_vwi.getD (ex_m y).2.2.2.2.1 9)
      | _ => false
    | _ => false
  | _ => match A with
    | .ref _ :: _ => true
    | _ => false
def ex_run : Nat → Nat → Nat → List Value → List Value → ex_Hp → Option (Option Value × ex_Hp)
  | 0, _, _, _, _, _ => none
  | n + 1, y, pc, L, S, h =>
    let o := ex_mo y pc
    match ex_kind o.1 o.2.2.1 with
    | 5 => if o.2.2.2.1 ≤ S.length ∧ ex_cat (S.drop o.2.2.2.1) ≤ 8 ∧ (S.take o.2.2.2.1).all (fun v => v.category == 1) = true ∧ ex_recv o.2.2.1 (S.take o.2.2.2.1).reverse h = true then
        match ex_run n o.2.2.1 0 (ex_in o.2.2.1 (S.take o.2.2.2.1).reverse) [] h with
        | some (r, h') => ex_run n y (pc + o.2.1) L (r.toList ++ S.drop o.2.2.2.1) h'
        | none => none
        else none
    | 6 => match ex_end y pc S with
      | some r => some (r, h)
      | none => none
    | _ => match ex_step y pc L S h with
      | some (pc', L', S', h') => ex_run n y pc' L' S' h'
      | none => none
