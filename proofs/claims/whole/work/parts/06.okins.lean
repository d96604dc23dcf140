/-! EACH INSTRUCTION OF THE TABLES IS THE BYTES' OWN, and its links are told. -/
def ex_okC (y a c : Nat) : Bool := decide (a < 161) && decide (c = ex_na a) && decide (ex_fr a + 1 ≤ ex_fr y) && decide (8 + (ex_mL a + 11) + ex_lo a ≤ ex_lo y)
def ex_okA (y pc : Nat) (ins : Instr) (len a c : Nat) (v : Int32) : Bool := match ins with
  | .iconst n => decide (len = 1 ∧ Int32.ofInt n = v)
  | .bipush n => decide (len = 2 ∧ (Int8.ofInt n).toInt32 = v)
  | .sipush n => decide (len = 3 ∧ (Int16.ofInt n).toInt32 = v)
  | .iload i => decide (len = 2 ∧ a = i)
  | .aload i => decide (len = 2 ∧ a = i)
  | .istore i => decide (len = 2 ∧ a = i)
  | .astore i => decide (len = 2 ∧ a = i)
  | .iload_n i => decide (len = 1 ∧ a = (i : Nat))
  | .aload_n i => decide (len = 1 ∧ a = (i : Nat))
  | .istore_n i => decide (len = 1 ∧ a = (i : Nat))
  | .astore_n i => decide (len = 1 ∧ a = (i : Nat))
  | .iinc i n => decide (len = 3 ∧ a = i ∧ Int32.ofInt n = v)
  | .ineg => decide (len = 1)
  | .dup => decide (len = 1)
  | .pop => decide (len = 1)
  | .iadd => decide (len = 1)
  | .isub => decide (len = 1)
  | .imul => decide (len = 1)
  | .idiv => decide (len = 1)
  | .irem => decide (len = 1)
  | .ishl => decide (len = 1)
  | .ishr => decide (len = 1)
  | .iand => decide (len = 1)
  | .ior => decide (len = 1)
  | .iaload => decide (len = 1)
  | .iastore => decide (len = 1)
  | .baload => decide (len = 1)
  | .bastore => decide (len = 1)
  | .aaload => decide (len = 1)
  | .aastore => decide (len = 1)
  | .arraylength => decide (len = 1)
  | .ifCond _ off => decide (len = 3 ∧ (pc : Int) + off = (a : Int))
  | .if_icmp _ off => decide (len = 3 ∧ (pc : Int) + off = (a : Int))
  | .goto off => decide (len = 3 ∧ (pc : Int) + off = (a : Int))
  | .ifnull off => decide (len = 3 ∧ (pc : Int) + off = (a : Int))
  | .ifnonnull off => decide (len = 3 ∧ (pc : Int) + off = (a : Int))
  | .tableswitch d _ _ offs => decide ((pc : Int) + d = (a : Int)) && offs.toList.all (fun o => decide (0 ≤ (pc : Int) + o))
  | .getfield i => decide (len = 3 ∧ a < 9 ∧ c < ex_nf a) && ex_fl.contains (ex_ow y, i, a, c)
  | .putfield i => decide (len = 3 ∧ a < 9 ∧ c < ex_nf a) && ex_fl.contains (ex_ow y, i, a, c) && (!((ex_T a).2.1 c).2.2.2 || decide ((ex_nm y).name = "<init>" ∧ ((ex_T a).2.1 c).1 = ex_o (ex_ow y)))
  | .checkcast i => decide (len = 3) && ex_cl.contains (ex_ow y, i, "[I")
  | .new i => decide (len = 3 ∧ a < 9) && ex_cl.contains (ex_ow y, i, (ex_T a).1)
  | .newarray t => decide (len = 2) && ((decide (a = 0) && decide (t = .int)) || (decide (a = 1) && decide (t = .boolean)))
  | .anewarray i => decide (len = 3) && ((decide (a = 3) && ex_cl.contains (ex_ow y, i, RX1)) || (decide (a = 4) && ex_cl.contains (ex_ow y, i, RX5)) || (decide (a = 5) && ex_cl.contains (ex_ow y, i, RX7)))
  | .multianewarray i d => decide (len = 4 ∧ d = 2) && ex_cl.contains (ex_ow y, i, "[[I")
  | .invokespecial i => decide (len = 3) && ex_ml.contains (ex_ow y, i, a, 2) && (if a < 1000 then ex_okC y a c && decide (ex_kd a = 2) else decide (a = 1000 ∧ 1 ≤ ex_fr y ∧ 20 ≤ ex_lo y))
  | .invokestatic i => decide (len = 3) && ex_ml.contains (ex_ow y, i, a, 0) && (if a < 1000 then ex_okC y a c && decide (ex_kd a = 0) else decide ((a = 1001 ∨ a = 1003) ∧ 1 ≤ ex_fr y ∧ (a = 1001 → 26 ≤ ex_lo y) ∧ 21 ≤ ex_lo y))
  | .invokevirtual i => decide (len = 3) && ex_ml.contains (ex_ow y, i, a, 1) && (if a < 1000 then ex_okC y a c && decide (ex_kd a = 1) else decide (a = 1002 ∧ 1 ≤ ex_fr y ∧ 22 ≤ ex_lo y))
  | .ireturn => decide (len = 1) && ((decide (a = 0) && decide (ex_rt y = some .int)) || (decide (a = 1) && decide (ex_rt y = some .boolean)))
  | .areturn => decide (len = 1 ∧ ex_rt y = some (.array .int))
  | .return_ => decide (len = 1 ∧ ex_rt y = none)
  | _ => false
def ex_okI (y pc : Nat) (o : ex_MO) : Bool := decide (decode (ex_by y) pc = .ok (o.1, o.2.1)) && ex_okA y pc o.1 o.2.1 o.2.2.1 o.2.2.2.1 o.2.2.2.2
def ex_chk (y : Nat) : Bool := ((ex_codes.getD y []).zipIdx).all (fun q => decide (q.1 = ex_no) || ex_okI y q.2 q.1)

theorem ex_chk_0 : (List.range' 0 23).all ex_chk = true := by decide +kernel
theorem ex_chk_1 : (List.range' 23 23).all ex_chk = true := by decide +kernel
theorem ex_chk_2 : (List.range' 46 23).all ex_chk = true := by decide +kernel
theorem ex_chk_3 : (List.range' 69 23).all ex_chk = true := by decide +kernel
theorem ex_chk_4 : (List.range' 92 23).all ex_chk = true := by decide +kernel
theorem ex_chk_5 : (List.range' 115 23).all ex_chk = true := by decide +kernel
theorem ex_chk_6 : (List.range' 138 23).all ex_chk = true := by decide +kernel
theorem ex_chk_all : ∀ y, y < 161 → ex_chk y = true := by
  intro y hy
  by_cases h0 : y < 23
  · exact List.all_eq_true.mp ex_chk_0 y (List.mem_range'_1.mpr ⟨by omega, by omega⟩)
  by_cases h1 : y < 46
  · exact List.all_eq_true.mp ex_chk_1 y (List.mem_range'_1.mpr ⟨by omega, by omega⟩)
  by_cases h2 : y < 69
  · exact List.all_eq_true.mp ex_chk_2 y (List.mem_range'_1.mpr ⟨by omega, by omega⟩)
  by_cases h3 : y < 92
  · exact List.all_eq_true.mp ex_chk_3 y (List.mem_range'_1.mpr ⟨by omega, by omega⟩)
  by_cases h4 : y < 115
  · exact List.all_eq_true.mp ex_chk_4 y (List.mem_range'_1.mpr ⟨by omega, by omega⟩)
  by_cases h5 : y < 138
  · exact List.all_eq_true.mp ex_chk_5 y (List.mem_range'_1.mpr ⟨by omega, by omega⟩)
  by_cases h6 : y < 161
  · exact List.all_eq_true.mp ex_chk_6 y (List.mem_range'_1.mpr ⟨by omega, by omega⟩)
  exact absurd hy (by omega)
theorem ex_codes_len : ex_codes.length = 162 := by decide +kernel
def ex_okP (y pc : Nat) : Bool := decide (ex_mo y pc = ex_no) || ex_okI y pc (ex_mo y pc)
