-- 161: LoopStrandsLaw.law
set_option maxRecDepth 100000 in
theorem s161_0 {l0 l1 l2 l3 : Value} {S : List Value} {h : ex_Hp} {X : Option Value → ex_Hp → Prop} : ex_W 161 0 [l0, l1, l2, l3] S h X ↔ ex_W 161 3 [l0, l1, l2, l3] (.ref h.1 :: S) (ex_new h (cO 7 (ex_dfl 7)) 6) X := w_st rfl
set_option maxRecDepth 100000 in
theorem s161_3 {l0 l1 l2 l3 : Value} {S : List Value} {h : ex_Hp} {X : Option Value → ex_Hp → Prop} {o : Nat} : ex_W 161 3 [l0, l1, l2, l3] (.ref o :: S) h X ↔ ex_W 161 4 [l0, l1, l2, l3] (.ref o :: .ref o :: S) h X := w_st rfl
set_option maxRecDepth 100000 in
theorem s161_4 {l0 l1 l2 l3 : Value} {S : List Value} {h : ex_Hp} {X : Option Value → ex_Hp → Prop} {x0 : Nat} : ex_W 161 4 [l0, l1, l2, l3] (.ref x0 :: S) h X ↔ ex_cat S ≤ 8 ∧ ex_W 60 0 [.ref x0] [] h (fun r h1 => ex_W 161 7 [l0, l1, l2, l3] (r.toList ++ S) h1 X) := w_cas (A := [.ref x0]) (rest := S) rfl rfl rfl rfl rfl rfl rfl (fun _ => rfl)
set_option maxRecDepth 100000 in
theorem s161_7 {l0 l1 l2 l3 : Value} {S : List Value} {h : ex_Hp} {X : Option Value → ex_Hp → Prop} {o : Nat} : ex_W 161 7 [l0, l1, l2, l3] (.ref o :: S) h X ↔ ex_W 161 8 [l0, .ref o, l2, l3] S h X := w_st rfl
set_option maxRecDepth 100000 in
theorem s161_8 {l0 l1 l2 l3 : Value} {S : List Value} {h : ex_Hp} {X : Option Value → ex_Hp → Prop} : ex_W 161 8 [l0, l1, l2, l3] S h X ↔ ex_W 161 11 [l0, l1, l2, l3] (.ref h.1 :: S) (ex_new h (cO 8 (ex_dfl 8)) 27) X := w_st rfl
set_option maxRecDepth 100000 in
theorem s161_11 {l0 l1 l2 l3 : Value} {S : List Value} {h : ex_Hp} {X : Option Value → ex_Hp → Prop} {o : Nat} : ex_W 161 11 [l0, l1, l2, l3] (.ref o :: S) h X ↔ ex_W 161 12 [l0, l1, l2, l3] (.ref o :: .ref o :: S) h X := w_st rfl
set_option maxRecDepth 100000 in
theorem s161_12 {l0 l1 l2 l3 : Value} {S : List Value} {h : ex_Hp} {X : Option Value → ex_Hp → Prop} {x0 : Nat} : ex_W 161 12 [l0, l1, l2, l3] (.ref x0 :: S) h X ↔ ex_cat S ≤ 8 ∧ ex_W 91 0 [.ref x0] [] h (fun r h1 => ex_W 161 15 [l0, l1, l2, l3] (r.toList ++ S) h1 X) := w_cas (A := [.ref x0]) (rest := S) rfl rfl rfl rfl rfl rfl rfl (fun _ => rfl)
set_option maxRecDepth 100000 in
theorem s161_15 {l0 l1 l2 l3 : Value} {S : List Value} {h : ex_Hp} {X : Option Value → ex_Hp → Prop} {o : Nat} : ex_W 161 15 [l0, l1, l2, l3] (.ref o :: S) h X ↔ ex_W 161 16 [l0, l1, .ref o, l3] S h X := w_st rfl
set_option maxRecDepth 100000 in
theorem s161_16 {l0 l1 l2 l3 : Value} {S : List Value} {h : ex_Hp} {X : Option Value → ex_Hp → Prop} : ex_W 161 16 [l0, l1, l2, l3] S h X ↔ ex_W 161 17 [l0, l1, l2, l3] (.int (nI 0) :: S) h X := w_st rfl
set_option maxRecDepth 100000 in
theorem s161_17 {l0 l1 l2 l3 : Value} {S : List Value} {h : ex_Hp} {X : Option Value → ex_Hp → Prop} {x : Int32} : ex_W 161 17 [l0, l1, l2, l3] (.int x :: S) h X ↔ ex_W 161 18 [l0, l1, l2, .int x] S h X := w_st rfl
set_option maxRecDepth 100000 in
theorem s161_18 {l0 l1 l2 : Value} {S : List Value} {h : ex_Hp} {X : Option Value → ex_Hp → Prop} {x : Int32} : ex_W 161 18 [l0, l1, l2, .int x] S h X ↔ ex_W 161 19 [l0, l1, l2, .int x] (.int x :: S) h X := w_st rfl
set_option maxRecDepth 100000 in
theorem s161_19 {l1 l2 l3 : Value} {S : List Value} {h : ex_Hp} {X : Option Value → ex_Hp → Prop} {o : Nat} : ex_W 161 19 [.ref o, l1, l2, l3] S h X ↔ ex_W 161 20 [.ref o, l1, l2, l3] (.ref o :: S) h X := w_st rfl
set_option maxRecDepth 100000 in
theorem s161_20 {l0 l1 l2 l3 : Value} {S : List Value} {h : ex_Hp} {X : Option Value → ex_Hp → Prop} {o : Nat} : ex_W 161 20 [l0, l1, l2, l3] (.ref o :: S) h X ↔ ex_ln (ex_g h o) (fun z => ex_W 161 21 [l0, l1, l2, l3] (.int z :: S) h X) := w_alen rfl rfl
set_option maxRecDepth 100000 in
theorem s161_21 {l0 l1 l2 l3 : Value} {S : List Value} {h : ex_Hp} {X : Option Value → ex_Hp → Prop} : ex_W 161 21 [l0, l1, l2, l3] S h X ↔ ex_W 161 22 [l0, l1, l2, l3] (.int (nI 5) :: S) h X := w_st rfl
set_option maxRecDepth 100000 in
theorem s161_22 {l0 l1 l2 l3 : Value} {S : List Value} {h : ex_Hp} {X : Option Value → ex_Hp → Prop} {x z : Int32} : ex_W 161 22 [l0, l1, l2, l3] (.int z :: .int x :: S) h X ↔ ex_W 161 23 [l0, l1, l2, l3] (.int (x - z) :: S) h X := w_st rfl
set_option maxRecDepth 100000 in
theorem s161_23 {l0 l1 l2 l3 : Value} {S : List Value} {h : ex_Hp} {X : Option Value → ex_Hp → Prop} {x z : Int32} : ex_W 161 23 [l0, l1, l2, l3] (.int z :: .int x :: S) h X ↔ if z < x then ex_W 161 872 [l0, l1, l2, l3] S h X else ex_W 161 26 [l0, l1, l2, l3] S h X := (w_st rfl).trans (w_cmp (p := z < x) (by exact decide_eq_true_iff))
set_option maxRecDepth 100000 in
theorem s161_26 {l1 l2 l3 : Value} {S : List Value} {h : ex_Hp} {X : Option Value → ex_Hp → Prop} {o : Nat} : ex_W 161 26 [.ref o, l1, l2, l3] S h X ↔ ex_W 161 27 [.ref o, l1, l2, l3] (.ref o :: S) h X := w_st rfl
set_option maxRecDepth 100000 in
theorem s161_27 {l0 l1 l2 : Value} {S : List Value} {h : ex_Hp} {X : Option Value → ex_Hp → Prop} {x : Int32} : ex_W 161 27 [l0, l1, l2, .int x] S h X ↔ ex_W 161 28 [l0, l1, l2, .int x] (.int x :: S) h X := w_st rfl
set_option maxRecDepth 100000 in
theorem s161_28 {l0 l1 l2 l3 : Value} {S : List Value} {h : ex_Hp} {X : Option Value → ex_Hp → Prop} {o : Nat} {i : Int32} : ex_W 161 28 [l0, l1, l2, l3] (.int i :: .ref o :: S) h X ↔ ex_al (ex_g h o) i (fun z => ex_W 161 29 [l0, l1, l2, l3] (.int z :: S) h X) := w_iald rfl rfl
set_option maxRecDepth 100000 in
theorem s161_29 {l0 l1 l2 l3 : Value} {S : List Value} {h : ex_Hp} {X : Option Value → ex_Hp → Prop} : ex_W 161 29 [l0, l1, l2, l3] S h X ↔ ex_W 161 31 [l0, l1, l2, l3] (.int (nI 31) :: S) h X := w_st rfl
set_option maxRecDepth 100000 in
theorem s161_31 {l0 l1 l2 l3 : Value} {S : List Value} {h : ex_Hp} {X : Option Value → ex_Hp → Prop} {x z : Int32} : ex_W 161 31 [l0, l1, l2, l3] (.int z :: .int x :: S) h X ↔ ex_W 161 32 [l0, l1, l2, l3] (.int (x &&& z) :: S) h X := w_st rfl
set_option maxRecDepth 100000 in
theorem s161_32 {l0 l1 l2 l3 : Value} {S : List Value} {h : ex_Hp} {X : Option Value → ex_Hp → Prop} {x : Int32} : ex_W 161 32 [l0, l1, l2, l3] (.int x :: S) h X ↔ if x = nI 0 then ex_W 161 144 [l0, l1, l2, l3] S h X else if x = nI 1 then ex_W 161 167 [l0, l1, l2, l3] S h X else if x = nI 2 then ex_W 161 190 [l0, l1, l2, l3] S h X else if x = nI 3 then ex_W 161 203 [l0, l1, l2, l3] S h X else if x = nI 4 then ex_W 161 226 [l0, l1, l2, l3] S h X else if x = nI 5 then ex_W 161 239 [l0, l1, l2, l3] S h X else if x = nI 6 then ex_W 161 262 [l0, l1, l2, l3] S h X else if x = nI 7 then ex_W 161 295 [l0, l1, l2, l3] S h X else if x = nI 8 then ex_W 161 328 [l0, l1, l2, l3] S h X else if x = nI 9 then ex_W 161 371 [l0, l1, l2, l3] S h X else if x = nI 10 then ex_W 161 404 [l0, l1, l2, l3] S h X else if x = nI 11 then ex_W 161 437 [l0, l1, l2, l3] S h X else if x = nI 12 then ex_W 161 480 [l0, l1, l2, l3] S h X else if x = nI 13 then ex_W 161 513 [l0, l1, l2, l3] S h X else if x = nI 14 then ex_W 161 566 [l0, l1, l2, l3] S h X else if x = nI 15 then ex_W 161 609 [l0, l1, l2, l3] S h X else if x = nI 16 then ex_W 161 642 [l0, l1, l2, l3] S h X else if x = nI 17 then ex_W 161 665 [l0, l1, l2, l3] S h X else if x = nI 18 then ex_W 161 688 [l0, l1, l2, l3] S h X else if x = nI 19 then ex_W 161 721 [l0, l1, l2, l3] S h X else if x = nI 20 then ex_W 161 754 [l0, l1, l2, l3] S h X else if x = nI 21 then ex_W 161 797 [l0, l1, l2, l3] S h X else if x = nI 22 then ex_W 161 820 [l0, l1, l2, l3] S h X else if x = nI 23 then ex_W 161 843 [l0, l1, l2, l3] S h X else ex_W 161 866 [l0, l1, l2, l3] S h X := (w_tsw rfl).trans (by
  by_cases q0 : x = nI 0
  · subst q0
    exact Iff.rfl
  by_cases q1 : x = nI 1
  · subst q1
    exact Iff.rfl
  by_cases q2 : x = nI 2
  · subst q2
    exact Iff.rfl
  by_cases q3 : x = nI 3
  · subst q3
    exact Iff.rfl
  by_cases q4 : x = nI 4
  · subst q4
    exact Iff.rfl
  by_cases q5 : x = nI 5
  · subst q5
    exact Iff.rfl
  by_cases q6 : x = nI 6
  · subst q6
    exact Iff.rfl
  by_cases q7 : x = nI 7
  · subst q7
    exact Iff.rfl
  by_cases q8 : x = nI 8
  · subst q8
    exact Iff.rfl
  by_cases q9 : x = nI 9
  · subst q9
    exact Iff.rfl
  by_cases q10 : x = nI 10
  · subst q10
    exact Iff.rfl
  by_cases q11 : x = nI 11
  · subst q11
    exact Iff.rfl
  by_cases q12 : x = nI 12
  · subst q12
    exact Iff.rfl
  by_cases q13 : x = nI 13
  · subst q13
    exact Iff.rfl
  by_cases q14 : x = nI 14
  · subst q14
    exact Iff.rfl
  by_cases q15 : x = nI 15
  · subst q15
    exact Iff.rfl
  by_cases q16 : x = nI 16
  · subst q16
    exact Iff.rfl
  by_cases q17 : x = nI 17
  · subst q17
    exact Iff.rfl
  by_cases q18 : x = nI 18
  · subst q18
    exact Iff.rfl
  by_cases q19 : x = nI 19
  · subst q19
    exact Iff.rfl
  by_cases q20 : x = nI 20
  · subst q20
    exact Iff.rfl
  by_cases q21 : x = nI 21
  · subst q21
    exact Iff.rfl
  by_cases q22 : x = nI 22
  · subst q22
    exact Iff.rfl
  by_cases q23 : x = nI 23
  · subst q23
    exact Iff.rfl
  have r0 := lv_neT (a := 0) q0 rfl
  have r1 := lv_neT (a := 1) q1 rfl
  have r2 := lv_neT (a := 2) q2 rfl
  have r3 := lv_neT (a := 3) q3 rfl
  have r4 := lv_neT (a := 4) q4 rfl
  have r5 := lv_neT (a := 5) q5 rfl
  have r6 := lv_neT (a := 6) q6 rfl
  have r7 := lv_neT (a := 7) q7 rfl
  have r8 := lv_neT (a := 8) q8 rfl
  have r9 := lv_neT (a := 9) q9 rfl
  have r10 := lv_neT (a := 10) q10 rfl
  have r11 := lv_neT (a := 11) q11 rfl
  have r12 := lv_neT (a := 12) q12 rfl
  have r13 := lv_neT (a := 13) q13 rfl
  have r14 := lv_neT (a := 14) q14 rfl
  have r15 := lv_neT (a := 15) q15 rfl
  have r16 := lv_neT (a := 16) q16 rfl
  have r17 := lv_neT (a := 17) q17 rfl
  have r18 := lv_neT (a := 18) q18 rfl
  have r19 := lv_neT (a := 19) q19 rfl
  have r20 := lv_neT (a := 20) q20 rfl
  have r21 := lv_neT (a := 21) q21 rfl
  have r22 := lv_neT (a := 22) q22 rfl
  have r23 := lv_neT (a := 23) q23 rfl
  rw [if_pos (show x.toInt < 0 ∨ (23 : Int) < x.toInt by omega), if_neg q0, if_neg q1, if_neg q2, if_neg q3, if_neg q4, if_neg q5, if_neg q6, if_neg q7, if_neg q8, if_neg q9, if_neg q10, if_neg q11, if_neg q12, if_neg q13, if_neg q14, if_neg q15, if_neg q16, if_neg q17, if_neg q18, if_neg q19, if_neg q20, if_neg q21, if_neg q22, if_neg q23])
set_option maxRecDepth 100000 in
theorem s161_144 {l0 l2 l3 : Value} {S : List Value} {h : ex_Hp} {X : Option Value → ex_Hp → Prop} {o : Nat} : ex_W 161 144 [l0, .ref o, l2, l3] S h X ↔ ex_W 161 145 [l0, .ref o, l2, l3] (.ref o :: S) h X := w_st rfl
set_option maxRecDepth 100000 in
theorem s161_145 {l1 l2 l3 : Value} {S : List Value} {h : ex_Hp} {X : Option Value → ex_Hp → Prop} {o : Nat} : ex_W 161 145 [.ref o, l1, l2, l3] S h X ↔ ex_W 161 146 [.ref o, l1, l2, l3] (.ref o :: S) h X := w_st rfl
set_option maxRecDepth 100000 in
theorem s161_146 {l0 l1 l2 : Value} {S : List Value} {h : ex_Hp} {X : Option Value → ex_Hp → Prop} {x : Int32} : ex_W 161 146 [l0, l1, l2, .int x] S h X ↔ ex_W 161 147 [l0, l1, l2, .int x] (.int x :: S) h X := w_st rfl
set_option maxRecDepth 100000 in
theorem s161_147 {l0 l1 l2 l3 : Value} {S : List Value} {h : ex_Hp} {X : Option Value → ex_Hp → Prop} : ex_W 161 147 [l0, l1, l2, l3] S h X ↔ ex_W 161 148 [l0, l1, l2, l3] (.int (nI 1) :: S) h X := w_st rfl
set_option maxRecDepth 100000 in
theorem s161_148 {l0 l1 l2 l3 : Value} {S : List Value} {h : ex_Hp} {X : Option Value → ex_Hp → Prop} {x z : Int32} : ex_W 161 148 [l0, l1, l2, l3] (.int z :: .int x :: S) h X ↔ ex_W 161 149 [l0, l1, l2, l3] (.int (x + z) :: S) h X := w_st rfl
set_option maxRecDepth 100000 in
theorem s161_149 {l0 l1 l2 l3 : Value} {S : List Value} {h : ex_Hp} {X : Option Value → ex_Hp → Prop} {o : Nat} {i : Int32} : ex_W 161 149 [l0, l1, l2, l3] (.int i :: .ref o :: S) h X ↔ ex_al (ex_g h o) i (fun z => ex_W 161 150 [l0, l1, l2, l3] (.int z :: S) h X) := w_iald rfl rfl
set_option maxRecDepth 100000 in
theorem s161_150 {l0 l1 l2 l3 : Value} {S : List Value} {h : ex_Hp} {X : Option Value → ex_Hp → Prop} {x0 : Nat} {x1 : Int32} : ex_W 161 150 [l0, l1, l2, l3] (.int x1 :: .ref x0 :: S) h X ↔ ex_cat S ≤ 8 ∧ ex_is (ex_g h x0) 7 ∧ ex_W 61 0 [.ref x0, .int x1] [] h (fun r h1 => ex_W 161 153 [l0, l1, l2, l3] (r.toList ++ S) h1 X) := w_cav (o := x0) (As := [.int x1]) (rest := S) rfl rfl rfl rfl rfl rfl rfl rfl rfl
set_option maxRecDepth 100000 in
theorem s161_153 {l0 l1 l3 : Value} {S : List Value} {h : ex_Hp} {X : Option Value → ex_Hp → Prop} {o : Nat} : ex_W 161 153 [l0, l1, .ref o, l3] S h X ↔ ex_W 161 154 [l0, l1, .ref o, l3] (.ref o :: S) h X := w_st rfl
set_option maxRecDepth 100000 in
theorem s161_154 {l1 l2 l3 : Value} {S : List Value} {h : ex_Hp} {X : Option Value → ex_Hp → Prop} {o : Nat} : ex_W 161 154 [.ref o, l1, l2, l3] S h X ↔ ex_W 161 155 [.ref o, l1, l2, l3] (.ref o :: S) h X := w_st rfl
set_option maxRecDepth 100000 in
theorem s161_155 {l0 l1 l2 : Value} {S : List Value} {h : ex_Hp} {X : Option Value → ex_Hp → Prop} {x : Int32} : ex_W 161 155 [l0, l1, l2, .int x] S h X ↔ ex_W 161 156 [l0, l1, l2, .int x] (.int x :: S) h X := w_st rfl
set_option maxRecDepth 100000 in
theorem s161_156 {l0 l1 l2 l3 : Value} {S : List Value} {h : ex_Hp} {X : Option Value → ex_Hp → Prop} : ex_W 161 156 [l0, l1, l2, l3] S h X ↔ ex_W 161 157 [l0, l1, l2, l3] (.int (nI 1) :: S) h X := w_st rfl
set_option maxRecDepth 100000 in
theorem s161_157 {l0 l1 l2 l3 : Value} {S : List Value} {h : ex_Hp} {X : Option Value → ex_Hp → Prop} {x z : Int32} : ex_W 161 157 [l0, l1, l2, l3] (.int z :: .int x :: S) h X ↔ ex_W 161 158 [l0, l1, l2, l3] (.int (x + z) :: S) h X := w_st rfl
set_option maxRecDepth 100000 in
theorem s161_158 {l0 l1 l2 l3 : Value} {S : List Value} {h : ex_Hp} {X : Option Value → ex_Hp → Prop} {o : Nat} {i : Int32} : ex_W 161 158 [l0, l1, l2, l3] (.int i :: .ref o :: S) h X ↔ ex_al (ex_g h o) i (fun z => ex_W 161 159 [l0, l1, l2, l3] (.int z :: S) h X) := w_iald rfl rfl
set_option maxRecDepth 100000 in
theorem s161_159 {l0 l1 l2 l3 : Value} {S : List Value} {h : ex_Hp} {X : Option Value → ex_Hp → Prop} {x0 : Nat} {x1 : Int32} : ex_W 161 159 [l0, l1, l2, l3] (.int x1 :: .ref x0 :: S) h X ↔ ex_cat S ≤ 8 ∧ ex_is (ex_g h x0) 8 ∧ ex_W 107 0 [.ref x0, .int x1] [] h (fun r h1 => ex_W 161 162 [l0, l1, l2, l3] (r.toList ++ S) h1 X) := w_cav (o := x0) (As := [.int x1]) (rest := S) rfl rfl rfl rfl rfl rfl rfl rfl rfl
set_option maxRecDepth 100000 in
theorem s161_162 {l0 l1 l2 l3 : Value} {S : List Value} {h : ex_Hp} {X : Option Value → ex_Hp → Prop} {x z : Int32} : ex_W 161 162 [l0, l1, l2, l3] (.int z :: .int x :: S) h X ↔ if x = z then ex_W 161 866 [l0, l1, l2, l3] S h X else ex_W 161 165 [l0, l1, l2, l3] S h X := (w_st rfl).trans (w_cmp (p := x = z) (by exact decide_eq_true_iff))
set_option maxRecDepth 100000 in
theorem s161_165 {l0 l1 l2 l3 : Value} {S : List Value} {h : ex_Hp} {X : Option Value → ex_Hp → Prop} : ex_W 161 165 [l0, l1, l2, l3] S h X ↔ ex_W 161 166 [l0, l1, l2, l3] (.int (nI 0) :: S) h X := w_st rfl
set_option maxRecDepth 100000 in
theorem s161_166 {l0 l1 l2 l3 : Value} {h : ex_Hp} {X : Option Value → ex_Hp → Prop} {x : Int32} : ex_W 161 166 [l0, l1, l2, l3] [.int x] h X ↔ (x = nI 0 ∨ x = nI 1) ∧ X (some (.int x)) h := w_rez rfl
set_option maxRecDepth 100000 in
theorem s161_167 {l0 l2 l3 : Value} {S : List Value} {h : ex_Hp} {X : Option Value → ex_Hp → Prop} {o : Nat} : ex_W 161 167 [l0, .ref o, l2, l3] S h X ↔ ex_W 161 168 [l0, .ref o, l2, l3] (.ref o :: S) h X := w_st rfl
set_option maxRecDepth 100000 in
theorem s161_168 {l1 l2 l3 : Value} {S : List Value} {h : ex_Hp} {X : Option Value → ex_Hp → Prop} {o : Nat} : ex_W 161 168 [.ref o, l1, l2, l3] S h X ↔ ex_W 161 169 [.ref o, l1, l2, l3] (.ref o :: S) h X := w_st rfl
set_option maxRecDepth 100000 in
theorem s161_169 {l0 l1 l2 : Value} {S : List Value} {h : ex_Hp} {X : Option Value → ex_Hp → Prop} {x : Int32} : ex_W 161 169 [l0, l1, l2, .int x] S h X ↔ ex_W 161 170 [l0, l1, l2, .int x] (.int x :: S) h X := w_st rfl
set_option maxRecDepth 100000 in
theorem s161_170 {l0 l1 l2 l3 : Value} {S : List Value} {h : ex_Hp} {X : Option Value → ex_Hp → Prop} : ex_W 161 170 [l0, l1, l2, l3] S h X ↔ ex_W 161 171 [l0, l1, l2, l3] (.int (nI 1) :: S) h X := w_st rfl
set_option maxRecDepth 100000 in
theorem s161_171 {l0 l1 l2 l3 : Value} {S : List Value} {h : ex_Hp} {X : Option Value → ex_Hp → Prop} {x z : Int32} : ex_W 161 171 [l0, l1, l2, l3] (.int z :: .int x :: S) h X ↔ ex_W 161 172 [l0, l1, l2, l3] (.int (x + z) :: S) h X := w_st rfl
set_option maxRecDepth 100000 in
theorem s161_172 {l0 l1 l2 l3 : Value} {S : List Value} {h : ex_Hp} {X : Option Value → ex_Hp → Prop} {o : Nat} {i : Int32} : ex_W 161 172 [l0, l1, l2, l3] (.int i :: .ref o :: S) h X ↔ ex_al (ex_g h o) i (fun z => ex_W 161 173 [l0, l1, l2, l3] (.int z :: S) h X) := w_iald rfl rfl
set_option maxRecDepth 100000 in
theorem s161_173 {l0 l1 l2 l3 : Value} {S : List Value} {h : ex_Hp} {X : Option Value → ex_Hp → Prop} {x0 : Nat} {x1 : Int32} : ex_W 161 173 [l0, l1, l2, l3] (.int x1 :: .ref x0 :: S) h X ↔ ex_cat S ≤ 8 ∧ ex_is (ex_g h x0) 7 ∧ ex_W 62 0 [.ref x0, .int x1] [] h (fun r h1 => ex_W 161 176 [l0, l1, l2, l3] (r.toList ++ S) h1 X) := w_cav (o := x0) (As := [.int x1]) (rest := S) rfl rfl rfl rfl rfl rfl rfl rfl rfl
set_option maxRecDepth 100000 in
theorem s161_176 {l0 l1 l3 : Value} {S : List Value} {h : ex_Hp} {X : Option Value → ex_Hp → Prop} {o : Nat} : ex_W 161 176 [l0, l1, .ref o, l3] S h X ↔ ex_W 161 177 [l0, l1, .ref o, l3] (.ref o :: S) h X := w_st rfl
set_option maxRecDepth 100000 in
theorem s161_177 {l1 l2 l3 : Value} {S : List Value} {h : ex_Hp} {X : Option Value → ex_Hp → Prop} {o : Nat} : ex_W 161 177 [.ref o, l1, l2, l3] S h X ↔ ex_W 161 178 [.ref o, l1, l2, l3] (.ref o :: S) h X := w_st rfl
set_option maxRecDepth 100000 in
theorem s161_178 {l0 l1 l2 : Value} {S : List Value} {h : ex_Hp} {X : Option Value → ex_Hp → Prop} {x : Int32} : ex_W 161 178 [l0, l1, l2, .int x] S h X ↔ ex_W 161 179 [l0, l1, l2, .int x] (.int x :: S) h X := w_st rfl
set_option maxRecDepth 100000 in
theorem s161_179 {l0 l1 l2 l3 : Value} {S : List Value} {h : ex_Hp} {X : Option Value → ex_Hp → Prop} : ex_W 161 179 [l0, l1, l2, l3] S h X ↔ ex_W 161 180 [l0, l1, l2, l3] (.int (nI 1) :: S) h X := w_st rfl
set_option maxRecDepth 100000 in
theorem s161_180 {l0 l1 l2 l3 : Value} {S : List Value} {h : ex_Hp} {X : Option Value → ex_Hp → Prop} {x z : Int32} : ex_W 161 180 [l0, l1, l2, l3] (.int z :: .int x :: S) h X ↔ ex_W 161 181 [l0, l1, l2, l3] (.int (x + z) :: S) h X := w_st rfl
set_option maxRecDepth 100000 in
theorem s161_181 {l0 l1 l2 l3 : Value} {S : List Value} {h : ex_Hp} {X : Option Value → ex_Hp → Prop} {o : Nat} {i : Int32} : ex_W 161 181 [l0, l1, l2, l3] (.int i :: .ref o :: S) h X ↔ ex_al (ex_g h o) i (fun z => ex_W 161 182 [l0, l1, l2, l3] (.int z :: S) h X) := w_iald rfl rfl
set_option maxRecDepth 100000 in
theorem s161_182 {l0 l1 l2 l3 : Value} {S : List Value} {h : ex_Hp} {X : Option Value → ex_Hp → Prop} {x0 : Nat} {x1 : Int32} : ex_W 161 182 [l0, l1, l2, l3] (.int x1 :: .ref x0 :: S) h X ↔ ex_cat S ≤ 8 ∧ ex_is (ex_g h x0) 8 ∧ ex_W 108 0 [.ref x0, .int x1] [] h (fun r h1 => ex_W 161 185 [l0, l1, l2, l3] (r.toList ++ S) h1 X) := w_cav (o := x0) (As := [.int x1]) (rest := S) rfl rfl rfl rfl rfl rfl rfl rfl rfl
set_option maxRecDepth 100000 in
theorem s161_185 {l0 l1 l2 l3 : Value} {S : List Value} {h : ex_Hp} {X : Option Value → ex_Hp → Prop} {x z : Int32} : ex_W 161 185 [l0, l1, l2, l3] (.int z :: .int x :: S) h X ↔ if x = z then ex_W 161 866 [l0, l1, l2, l3] S h X else ex_W 161 188 [l0, l1, l2, l3] S h X := (w_st rfl).trans (w_cmp (p := x = z) (by exact decide_eq_true_iff))
set_option maxRecDepth 100000 in
theorem s161_188 {l0 l1 l2 l3 : Value} {S : List Value} {h : ex_Hp} {X : Option Value → ex_Hp → Prop} : ex_W 161 188 [l0, l1, l2, l3] S h X ↔ ex_W 161 189 [l0, l1, l2, l3] (.int (nI 0) :: S) h X := w_st rfl
set_option maxRecDepth 100000 in
theorem s161_189 {l0 l1 l2 l3 : Value} {h : ex_Hp} {X : Option Value → ex_Hp → Prop} {x : Int32} : ex_W 161 189 [l0, l1, l2, l3] [.int x] h X ↔ (x = nI 0 ∨ x = nI 1) ∧ X (some (.int x)) h := w_rez rfl
set_option maxRecDepth 100000 in
theorem s161_190 {l0 l2 l3 : Value} {S : List Value} {h : ex_Hp} {X : Option Value → ex_Hp → Prop} {o : Nat} : ex_W 161 190 [l0, .ref o, l2, l3] S h X ↔ ex_W 161 191 [l0, .ref o, l2, l3] (.ref o :: S) h X := w_st rfl
set_option maxRecDepth 100000 in
theorem s161_191 {l0 l1 l2 l3 : Value} {S : List Value} {h : ex_Hp} {X : Option Value → ex_Hp → Prop} {x0 : Nat} : ex_W 161 191 [l0, l1, l2, l3] (.ref x0 :: S) h X ↔ ex_cat S ≤ 8 ∧ ex_is (ex_g h x0) 7 ∧ ex_W 63 0 [.ref x0, oU] [] h (fun r h1 => ex_W 161 194 [l0, l1, l2, l3] (r.toList ++ S) h1 X) := w_cav (o := x0) (As := []) (rest := S) rfl rfl rfl rfl rfl rfl rfl rfl rfl
set_option maxRecDepth 100000 in
theorem s161_194 {l0 l1 l3 : Value} {S : List Value} {h : ex_Hp} {X : Option Value → ex_Hp → Prop} {o : Nat} : ex_W 161 194 [l0, l1, .ref o, l3] S h X ↔ ex_W 161 195 [l0, l1, .ref o, l3] (.ref o :: S) h X := w_st rfl
set_option maxRecDepth 100000 in
theorem s161_195 {l0 l1 l2 l3 : Value} {S : List Value} {h : ex_Hp} {X : Option Value → ex_Hp → Prop} {x0 : Nat} : ex_W 161 195 [l0, l1, l2, l3] (.ref x0 :: S) h X ↔ ex_cat S ≤ 8 ∧ ex_is (ex_g h x0) 8 ∧ ex_W 109 0 [.ref x0, oU] [] h (fun r h1 => ex_W 161 198 [l0, l1, l2, l3] (r.toList ++ S) h1 X) := w_cav (o := x0) (As := []) (rest := S) rfl rfl rfl rfl rfl rfl rfl rfl rfl
set_option maxRecDepth 100000 in
theorem s161_198 {l0 l1 l2 l3 : Value} {S : List Value} {h : ex_Hp} {X : Option Value → ex_Hp → Prop} {x z : Int32} : ex_W 161 198 [l0, l1, l2, l3] (.int z :: .int x :: S) h X ↔ if x = z then ex_W 161 866 [l0, l1, l2, l3] S h X else ex_W 161 201 [l0, l1, l2, l3] S h X := (w_st rfl).trans (w_cmp (p := x = z) (by exact decide_eq_true_iff))
set_option maxRecDepth 100000 in
theorem s161_201 {l0 l1 l2 l3 : Value} {S : List Value} {h : ex_Hp} {X : Option Value → ex_Hp → Prop} : ex_W 161 201 [l0, l1, l2, l3] S h X ↔ ex_W 161 202 [l0, l1, l2, l3] (.int (nI 0) :: S) h X := w_st rfl
set_option maxRecDepth 100000 in
theorem s161_202 {l0 l1 l2 l3 : Value} {h : ex_Hp} {X : Option Value → ex_Hp → Prop} {x : Int32} : ex_W 161 202 [l0, l1, l2, l3] [.int x] h X ↔ (x = nI 0 ∨ x = nI 1) ∧ X (some (.int x)) h := w_rez rfl
set_option maxRecDepth 100000 in
theorem s161_203 {l0 l2 l3 : Value} {S : List Value} {h : ex_Hp} {X : Option Value → ex_Hp → Prop} {o : Nat} : ex_W 161 203 [l0, .ref o, l2, l3] S h X ↔ ex_W 161 204 [l0, .ref o, l2, l3] (.ref o :: S) h X := w_st rfl
set_option maxRecDepth 100000 in
theorem s161_204 {l1 l2 l3 : Value} {S : List Value} {h : ex_Hp} {X : Option Value → ex_Hp → Prop} {o : Nat} : ex_W 161 204 [.ref o, l1, l2, l3] S h X ↔ ex_W 161 205 [.ref o, l1, l2, l3] (.ref o :: S) h X := w_st rfl
set_option maxRecDepth 100000 in
theorem s161_205 {l0 l1 l2 : Value} {S : List Value} {h : ex_Hp} {X : Option Value → ex_Hp → Prop} {x : Int32} : ex_W 161 205 [l0, l1, l2, .int x] S h X ↔ ex_W 161 206 [l0, l1, l2, .int x] (.int x :: S) h X := w_st rfl
set_option maxRecDepth 100000 in
theorem s161_206 {l0 l1 l2 l3 : Value} {S : List Value} {h : ex_Hp} {X : Option Value → ex_Hp → Prop} : ex_W 161 206 [l0, l1, l2, l3] S h X ↔ ex_W 161 207 [l0, l1, l2, l3] (.int (nI 1) :: S) h X := w_st rfl
set_option maxRecDepth 100000 in
theorem s161_207 {l0 l1 l2 l3 : Value} {S : List Value} {h : ex_Hp} {X : Option Value → ex_Hp → Prop} {x z : Int32} : ex_W 161 207 [l0, l1, l2, l3] (.int z :: .int x :: S) h X ↔ ex_W 161 208 [l0, l1, l2, l3] (.int (x + z) :: S) h X := w_st rfl
set_option maxRecDepth 100000 in
theorem s161_208 {l0 l1 l2 l3 : Value} {S : List Value} {h : ex_Hp} {X : Option Value → ex_Hp → Prop} {o : Nat} {i : Int32} : ex_W 161 208 [l0, l1, l2, l3] (.int i :: .ref o :: S) h X ↔ ex_al (ex_g h o) i (fun z => ex_W 161 209 [l0, l1, l2, l3] (.int z :: S) h X) := w_iald rfl rfl
set_option maxRecDepth 100000 in
theorem s161_209 {l0 l1 l2 l3 : Value} {S : List Value} {h : ex_Hp} {X : Option Value → ex_Hp → Prop} {x0 : Nat} {x1 : Int32} : ex_W 161 209 [l0, l1, l2, l3] (.int x1 :: .ref x0 :: S) h X ↔ ex_cat S ≤ 8 ∧ ex_is (ex_g h x0) 7 ∧ ex_W 64 0 [.ref x0, .int x1] [] h (fun r h1 => ex_W 161 212 [l0, l1, l2, l3] (r.toList ++ S) h1 X) := w_cav (o := x0) (As := [.int x1]) (rest := S) rfl rfl rfl rfl rfl rfl rfl rfl rfl
set_option maxRecDepth 100000 in
theorem s161_212 {l0 l1 l3 : Value} {S : List Value} {h : ex_Hp} {X : Option Value → ex_Hp → Prop} {o : Nat} : ex_W 161 212 [l0, l1, .ref o, l3] S h X ↔ ex_W 161 213 [l0, l1, .ref o, l3] (.ref o :: S) h X := w_st rfl
set_option maxRecDepth 100000 in
theorem s161_213 {l1 l2 l3 : Value} {S : List Value} {h : ex_Hp} {X : Option Value → ex_Hp → Prop} {o : Nat} : ex_W 161 213 [.ref o, l1, l2, l3] S h X ↔ ex_W 161 214 [.ref o, l1, l2, l3] (.ref o :: S) h X := w_st rfl
set_option maxRecDepth 100000 in
theorem s161_214 {l0 l1 l2 : Value} {S : List Value} {h : ex_Hp} {X : Option Value → ex_Hp → Prop} {x : Int32} : ex_W 161 214 [l0, l1, l2, .int x] S h X ↔ ex_W 161 215 [l0, l1, l2, .int x] (.int x :: S) h X := w_st rfl
set_option maxRecDepth 100000 in
theorem s161_215 {l0 l1 l2 l3 : Value} {S : List Value} {h : ex_Hp} {X : Option Value → ex_Hp → Prop} : ex_W 161 215 [l0, l1, l2, l3] S h X ↔ ex_W 161 216 [l0, l1, l2, l3] (.int (nI 1) :: S) h X := w_st rfl
set_option maxRecDepth 100000 in
theorem s161_216 {l0 l1 l2 l3 : Value} {S : List Value} {h : ex_Hp} {X : Option Value → ex_Hp → Prop} {x z : Int32} : ex_W 161 216 [l0, l1, l2, l3] (.int z :: .int x :: S) h X ↔ ex_W 161 217 [l0, l1, l2, l3] (.int (x + z) :: S) h X := w_st rfl
set_option maxRecDepth 100000 in
theorem s161_217 {l0 l1 l2 l3 : Value} {S : List Value} {h : ex_Hp} {X : Option Value → ex_Hp → Prop} {o : Nat} {i : Int32} : ex_W 161 217 [l0, l1, l2, l3] (.int i :: .ref o :: S) h X ↔ ex_al (ex_g h o) i (fun z => ex_W 161 218 [l0, l1, l2, l3] (.int z :: S) h X) := w_iald rfl rfl
set_option maxRecDepth 100000 in
theorem s161_218 {l0 l1 l2 l3 : Value} {S : List Value} {h : ex_Hp} {X : Option Value → ex_Hp → Prop} {x0 : Nat} {x1 : Int32} : ex_W 161 218 [l0, l1, l2, l3] (.int x1 :: .ref x0 :: S) h X ↔ ex_cat S ≤ 8 ∧ ex_is (ex_g h x0) 8 ∧ ex_W 113 0 [.ref x0, .int x1] [] h (fun r h1 => ex_W 161 221 [l0, l1, l2, l3] (r.toList ++ S) h1 X) := w_cav (o := x0) (As := [.int x1]) (rest := S) rfl rfl rfl rfl rfl rfl rfl rfl rfl
set_option maxRecDepth 100000 in
theorem s161_221 {l0 l1 l2 l3 : Value} {S : List Value} {h : ex_Hp} {X : Option Value → ex_Hp → Prop} {x z : Int32} : ex_W 161 221 [l0, l1, l2, l3] (.int z :: .int x :: S) h X ↔ if x = z then ex_W 161 866 [l0, l1, l2, l3] S h X else ex_W 161 224 [l0, l1, l2, l3] S h X := (w_st rfl).trans (w_cmp (p := x = z) (by exact decide_eq_true_iff))
set_option maxRecDepth 100000 in
theorem s161_224 {l0 l1 l2 l3 : Value} {S : List Value} {h : ex_Hp} {X : Option Value → ex_Hp → Prop} : ex_W 161 224 [l0, l1, l2, l3] S h X ↔ ex_W 161 225 [l0, l1, l2, l3] (.int (nI 0) :: S) h X := w_st rfl
set_option maxRecDepth 100000 in
theorem s161_225 {l0 l1 l2 l3 : Value} {h : ex_Hp} {X : Option Value → ex_Hp → Prop} {x : Int32} : ex_W 161 225 [l0, l1, l2, l3] [.int x] h X ↔ (x = nI 0 ∨ x = nI 1) ∧ X (some (.int x)) h := w_rez rfl
set_option maxRecDepth 100000 in
theorem s161_226 {l0 l2 l3 : Value} {S : List Value} {h : ex_Hp} {X : Option Value → ex_Hp → Prop} {o : Nat} : ex_W 161 226 [l0, .ref o, l2, l3] S h X ↔ ex_W 161 227 [l0, .ref o, l2, l3] (.ref o :: S) h X := w_st rfl
set_option maxRecDepth 100000 in
theorem s161_227 {l0 l1 l2 l3 : Value} {S : List Value} {h : ex_Hp} {X : Option Value → ex_Hp → Prop} {x0 : Nat} : ex_W 161 227 [l0, l1, l2, l3] (.ref x0 :: S) h X ↔ ex_cat S ≤ 8 ∧ ex_is (ex_g h x0) 7 ∧ ex_W 65 0 [.ref x0, oU] [] h (fun r h1 => ex_W 161 230 [l0, l1, l2, l3] (r.toList ++ S) h1 X) := w_cav (o := x0) (As := []) (rest := S) rfl rfl rfl rfl rfl rfl rfl rfl rfl
set_option maxRecDepth 100000 in
theorem s161_230 {l0 l1 l3 : Value} {S : List Value} {h : ex_Hp} {X : Option Value → ex_Hp → Prop} {o : Nat} : ex_W 161 230 [l0, l1, .ref o, l3] S h X ↔ ex_W 161 231 [l0, l1, .ref o, l3] (.ref o :: S) h X := w_st rfl
set_option maxRecDepth 100000 in
theorem s161_231 {l0 l1 l2 l3 : Value} {S : List Value} {h : ex_Hp} {X : Option Value → ex_Hp → Prop} {x0 : Nat} : ex_W 161 231 [l0, l1, l2, l3] (.ref x0 :: S) h X ↔ ex_cat S ≤ 8 ∧ ex_is (ex_g h x0) 8 ∧ ex_W 114 0 [.ref x0, oU, oU] [] h (fun r h1 => ex_W 161 234 [l0, l1, l2, l3] (r.toList ++ S) h1 X) := w_cav (o := x0) (As := []) (rest := S) rfl rfl rfl rfl rfl rfl rfl rfl rfl
set_option maxRecDepth 100000 in
theorem s161_234 {l0 l1 l2 l3 : Value} {S : List Value} {h : ex_Hp} {X : Option Value → ex_Hp → Prop} {x z : Int32} : ex_W 161 234 [l0, l1, l2, l3] (.int z :: .int x :: S) h X ↔ if x = z then ex_W 161 866 [l0, l1, l2, l3] S h X else ex_W 161 237 [l0, l1, l2, l3] S h X := (w_st rfl).trans (w_cmp (p := x = z) (by exact decide_eq_true_iff))
set_option maxRecDepth 100000 in
theorem s161_237 {l0 l1 l2 l3 : Value} {S : List Value} {h : ex_Hp} {X : Option Value → ex_Hp → Prop} : ex_W 161 237 [l0, l1, l2, l3] S h X ↔ ex_W 161 238 [l0, l1, l2, l3] (.int (nI 0) :: S) h X := w_st rfl
set_option maxRecDepth 100000 in
theorem s161_238 {l0 l1 l2 l3 : Value} {h : ex_Hp} {X : Option Value → ex_Hp → Prop} {x : Int32} : ex_W 161 238 [l0, l1, l2, l3] [.int x] h X ↔ (x = nI 0 ∨ x = nI 1) ∧ X (some (.int x)) h := w_rez rfl
set_option maxRecDepth 100000 in
theorem s161_239 {l0 l2 l3 : Value} {S : List Value} {h : ex_Hp} {X : Option Value → ex_Hp → Prop} {o : Nat} : ex_W 161 239 [l0, .ref o, l2, l3] S h X ↔ ex_W 161 240 [l0, .ref o, l2, l3] (.ref o :: S) h X := w_st rfl
set_option maxRecDepth 100000 in
theorem s161_240 {l1 l2 l3 : Value} {S : List Value} {h : ex_Hp} {X : Option Value → ex_Hp → Prop} {o : Nat} : ex_W 161 240 [.ref o, l1, l2, l3] S h X ↔ ex_W 161 241 [.ref o, l1, l2, l3] (.ref o :: S) h X := w_st rfl
set_option maxRecDepth 100000 in
theorem s161_241 {l0 l1 l2 : Value} {S : List Value} {h : ex_Hp} {X : Option Value → ex_Hp → Prop} {x : Int32} : ex_W 161 241 [l0, l1, l2, .int x] S h X ↔ ex_W 161 242 [l0, l1, l2, .int x] (.int x :: S) h X := w_st rfl
set_option maxRecDepth 100000 in
theorem s161_242 {l0 l1 l2 l3 : Value} {S : List Value} {h : ex_Hp} {X : Option Value → ex_Hp → Prop} : ex_W 161 242 [l0, l1, l2, l3] S h X ↔ ex_W 161 243 [l0, l1, l2, l3] (.int (nI 1) :: S) h X := w_st rfl
set_option maxRecDepth 100000 in
theorem s161_243 {l0 l1 l2 l3 : Value} {S : List Value} {h : ex_Hp} {X : Option Value → ex_Hp → Prop} {x z : Int32} : ex_W 161 243 [l0, l1, l2, l3] (.int z :: .int x :: S) h X ↔ ex_W 161 244 [l0, l1, l2, l3] (.int (x + z) :: S) h X := w_st rfl
set_option maxRecDepth 100000 in
theorem s161_244 {l0 l1 l2 l3 : Value} {S : List Value} {h : ex_Hp} {X : Option Value → ex_Hp → Prop} {o : Nat} {i : Int32} : ex_W 161 244 [l0, l1, l2, l3] (.int i :: .ref o :: S) h X ↔ ex_al (ex_g h o) i (fun z => ex_W 161 245 [l0, l1, l2, l3] (.int z :: S) h X) := w_iald rfl rfl
set_option maxRecDepth 100000 in
theorem s161_245 {l0 l1 l2 l3 : Value} {S : List Value} {h : ex_Hp} {X : Option Value → ex_Hp → Prop} {x0 : Nat} {x1 : Int32} : ex_W 161 245 [l0, l1, l2, l3] (.int x1 :: .ref x0 :: S) h X ↔ ex_cat S ≤ 8 ∧ ex_is (ex_g h x0) 7 ∧ ex_W 66 0 [.ref x0, .int x1, oU, oU, oU, oU] [] h (fun r h1 => ex_W 161 248 [l0, l1, l2, l3] (r.toList ++ S) h1 X) := w_cav (o := x0) (As := [.int x1]) (rest := S) rfl rfl rfl rfl rfl rfl rfl rfl rfl
set_option maxRecDepth 100000 in
theorem s161_248 {l0 l1 l3 : Value} {S : List Value} {h : ex_Hp} {X : Option Value → ex_Hp → Prop} {o : Nat} : ex_W 161 248 [l0, l1, .ref o, l3] S h X ↔ ex_W 161 249 [l0, l1, .ref o, l3] (.ref o :: S) h X := w_st rfl
set_option maxRecDepth 100000 in
theorem s161_249 {l1 l2 l3 : Value} {S : List Value} {h : ex_Hp} {X : Option Value → ex_Hp → Prop} {o : Nat} : ex_W 161 249 [.ref o, l1, l2, l3] S h X ↔ ex_W 161 250 [.ref o, l1, l2, l3] (.ref o :: S) h X := w_st rfl
set_option maxRecDepth 100000 in
theorem s161_250 {l0 l1 l2 : Value} {S : List Value} {h : ex_Hp} {X : Option Value → ex_Hp → Prop} {x : Int32} : ex_W 161 250 [l0, l1, l2, .int x] S h X ↔ ex_W 161 251 [l0, l1, l2, .int x] (.int x :: S) h X := w_st rfl
set_option maxRecDepth 100000 in
theorem s161_251 {l0 l1 l2 l3 : Value} {S : List Value} {h : ex_Hp} {X : Option Value → ex_Hp → Prop} : ex_W 161 251 [l0, l1, l2, l3] S h X ↔ ex_W 161 252 [l0, l1, l2, l3] (.int (nI 1) :: S) h X := w_st rfl
set_option maxRecDepth 100000 in
theorem s161_252 {l0 l1 l2 l3 : Value} {S : List Value} {h : ex_Hp} {X : Option Value → ex_Hp → Prop} {x z : Int32} : ex_W 161 252 [l0, l1, l2, l3] (.int z :: .int x :: S) h X ↔ ex_W 161 253 [l0, l1, l2, l3] (.int (x + z) :: S) h X := w_st rfl
set_option maxRecDepth 100000 in
theorem s161_253 {l0 l1 l2 l3 : Value} {S : List Value} {h : ex_Hp} {X : Option Value → ex_Hp → Prop} {o : Nat} {i : Int32} : ex_W 161 253 [l0, l1, l2, l3] (.int i :: .ref o :: S) h X ↔ ex_al (ex_g h o) i (fun z => ex_W 161 254 [l0, l1, l2, l3] (.int z :: S) h X) := w_iald rfl rfl
set_option maxRecDepth 100000 in
theorem s161_254 {l0 l1 l2 l3 : Value} {S : List Value} {h : ex_Hp} {X : Option Value → ex_Hp → Prop} {x0 : Nat} {x1 : Int32} : ex_W 161 254 [l0, l1, l2, l3] (.int x1 :: .ref x0 :: S) h X ↔ ex_cat S ≤ 8 ∧ ex_is (ex_g h x0) 8 ∧ ex_W 117 0 [.ref x0, .int x1, oU, oU, oU, oU] [] h (fun r h1 => ex_W 161 257 [l0, l1, l2, l3] (r.toList ++ S) h1 X) := w_cav (o := x0) (As := [.int x1]) (rest := S) rfl rfl rfl rfl rfl rfl rfl rfl rfl
set_option maxRecDepth 100000 in
theorem s161_257 {l0 l1 l2 l3 : Value} {S : List Value} {h : ex_Hp} {X : Option Value → ex_Hp → Prop} {x z : Int32} : ex_W 161 257 [l0, l1, l2, l3] (.int z :: .int x :: S) h X ↔ if x = z then ex_W 161 866 [l0, l1, l2, l3] S h X else ex_W 161 260 [l0, l1, l2, l3] S h X := (w_st rfl).trans (w_cmp (p := x = z) (by exact decide_eq_true_iff))
set_option maxRecDepth 100000 in
theorem s161_260 {l0 l1 l2 l3 : Value} {S : List Value} {h : ex_Hp} {X : Option Value → ex_Hp → Prop} : ex_W 161 260 [l0, l1, l2, l3] S h X ↔ ex_W 161 261 [l0, l1, l2, l3] (.int (nI 0) :: S) h X := w_st rfl
set_option maxRecDepth 100000 in
theorem s161_261 {l0 l1 l2 l3 : Value} {h : ex_Hp} {X : Option Value → ex_Hp → Prop} {x : Int32} : ex_W 161 261 [l0, l1, l2, l3] [.int x] h X ↔ (x = nI 0 ∨ x = nI 1) ∧ X (some (.int x)) h := w_rez rfl
set_option maxRecDepth 100000 in
theorem s161_262 {l0 l2 l3 : Value} {S : List Value} {h : ex_Hp} {X : Option Value → ex_Hp → Prop} {o : Nat} : ex_W 161 262 [l0, .ref o, l2, l3] S h X ↔ ex_W 161 263 [l0, .ref o, l2, l3] (.ref o :: S) h X := w_st rfl
set_option maxRecDepth 100000 in
theorem s161_263 {l1 l2 l3 : Value} {S : List Value} {h : ex_Hp} {X : Option Value → ex_Hp → Prop} {o : Nat} : ex_W 161 263 [.ref o, l1, l2, l3] S h X ↔ ex_W 161 264 [.ref o, l1, l2, l3] (.ref o :: S) h X := w_st rfl
set_option maxRecDepth 100000 in
theorem s161_264 {l0 l1 l2 : Value} {S : List Value} {h : ex_Hp} {X : Option Value → ex_Hp → Prop} {x : Int32} : ex_W 161 264 [l0, l1, l2, .int x] S h X ↔ ex_W 161 265 [l0, l1, l2, .int x] (.int x :: S) h X := w_st rfl
set_option maxRecDepth 100000 in
theorem s161_265 {l0 l1 l2 l3 : Value} {S : List Value} {h : ex_Hp} {X : Option Value → ex_Hp → Prop} : ex_W 161 265 [l0, l1, l2, l3] S h X ↔ ex_W 161 266 [l0, l1, l2, l3] (.int (nI 1) :: S) h X := w_st rfl
set_option maxRecDepth 100000 in
theorem s161_266 {l0 l1 l2 l3 : Value} {S : List Value} {h : ex_Hp} {X : Option Value → ex_Hp → Prop} {x z : Int32} : ex_W 161 266 [l0, l1, l2, l3] (.int z :: .int x :: S) h X ↔ ex_W 161 267 [l0, l1, l2, l3] (.int (x + z) :: S) h X := w_st rfl
set_option maxRecDepth 100000 in
theorem s161_267 {l0 l1 l2 l3 : Value} {S : List Value} {h : ex_Hp} {X : Option Value → ex_Hp → Prop} {o : Nat} {i : Int32} : ex_W 161 267 [l0, l1, l2, l3] (.int i :: .ref o :: S) h X ↔ ex_al (ex_g h o) i (fun z => ex_W 161 268 [l0, l1, l2, l3] (.int z :: S) h X) := w_iald rfl rfl
set_option maxRecDepth 100000 in
theorem s161_268 {l1 l2 l3 : Value} {S : List Value} {h : ex_Hp} {X : Option Value → ex_Hp → Prop} {o : Nat} : ex_W 161 268 [.ref o, l1, l2, l3] S h X ↔ ex_W 161 269 [.ref o, l1, l2, l3] (.ref o :: S) h X := w_st rfl
set_option maxRecDepth 100000 in
theorem s161_269 {l0 l1 l2 : Value} {S : List Value} {h : ex_Hp} {X : Option Value → ex_Hp → Prop} {x : Int32} : ex_W 161 269 [l0, l1, l2, .int x] S h X ↔ ex_W 161 270 [l0, l1, l2, .int x] (.int x :: S) h X := w_st rfl
set_option maxRecDepth 100000 in
theorem s161_270 {l0 l1 l2 l3 : Value} {S : List Value} {h : ex_Hp} {X : Option Value → ex_Hp → Prop} : ex_W 161 270 [l0, l1, l2, l3] S h X ↔ ex_W 161 271 [l0, l1, l2, l3] (.int (nI 2) :: S) h X := w_st rfl
set_option maxRecDepth 100000 in
theorem s161_271 {l0 l1 l2 l3 : Value} {S : List Value} {h : ex_Hp} {X : Option Value → ex_Hp → Prop} {x z : Int32} : ex_W 161 271 [l0, l1, l2, l3] (.int z :: .int x :: S) h X ↔ ex_W 161 272 [l0, l1, l2, l3] (.int (x + z) :: S) h X := w_st rfl
set_option maxRecDepth 100000 in
theorem s161_272 {l0 l1 l2 l3 : Value} {S : List Value} {h : ex_Hp} {X : Option Value → ex_Hp → Prop} {o : Nat} {i : Int32} : ex_W 161 272 [l0, l1, l2, l3] (.int i :: .ref o :: S) h X ↔ ex_al (ex_g h o) i (fun z => ex_W 161 273 [l0, l1, l2, l3] (.int z :: S) h X) := w_iald rfl rfl
set_option maxRecDepth 100000 in
theorem s161_273 {l0 l1 l2 l3 : Value} {S : List Value} {h : ex_Hp} {X : Option Value → ex_Hp → Prop} {x0 : Nat} {x1 : Int32} {x2 : Int32} : ex_W 161 273 [l0, l1, l2, l3] (.int x2 :: .int x1 :: .ref x0 :: S) h X ↔ ex_cat S ≤ 8 ∧ ex_is (ex_g h x0) 7 ∧ ex_W 67 0 [.ref x0, .int x1, .int x2] [] h (fun r h1 => ex_W 161 276 [l0, l1, l2, l3] (r.toList ++ S) h1 X) := w_cav (o := x0) (As := [.int x1, .int x2]) (rest := S) rfl rfl rfl rfl rfl rfl rfl rfl rfl
set_option maxRecDepth 100000 in
theorem s161_276 {l0 l1 l3 : Value} {S : List Value} {h : ex_Hp} {X : Option Value → ex_Hp → Prop} {o : Nat} : ex_W 161 276 [l0, l1, .ref o, l3] S h X ↔ ex_W 161 277 [l0, l1, .ref o, l3] (.ref o :: S) h X := w_st rfl
set_option maxRecDepth 100000 in
theorem s161_277 {l1 l2 l3 : Value} {S : List Value} {h : ex_Hp} {X : Option Value → ex_Hp → Prop} {o : Nat} : ex_W 161 277 [.ref o, l1, l2, l3] S h X ↔ ex_W 161 278 [.ref o, l1, l2, l3] (.ref o :: S) h X := w_st rfl
set_option maxRecDepth 100000 in
theorem s161_278 {l0 l1 l2 : Value} {S : List Value} {h : ex_Hp} {X : Option Value → ex_Hp → Prop} {x : Int32} : ex_W 161 278 [l0, l1, l2, .int x] S h X ↔ ex_W 161 279 [l0, l1, l2, .int x] (.int x :: S) h X := w_st rfl
set_option maxRecDepth 100000 in
theorem s161_279 {l0 l1 l2 l3 : Value} {S : List Value} {h : ex_Hp} {X : Option Value → ex_Hp → Prop} : ex_W 161 279 [l0, l1, l2, l3] S h X ↔ ex_W 161 280 [l0, l1, l2, l3] (.int (nI 1) :: S) h X := w_st rfl
set_option maxRecDepth 100000 in
theorem s161_280 {l0 l1 l2 l3 : Value} {S : List Value} {h : ex_Hp} {X : Option Value → ex_Hp → Prop} {x z : Int32} : ex_W 161 280 [l0, l1, l2, l3] (.int z :: .int x :: S) h X ↔ ex_W 161 281 [l0, l1, l2, l3] (.int (x + z) :: S) h X := w_st rfl
set_option maxRecDepth 100000 in
theorem s161_281 {l0 l1 l2 l3 : Value} {S : List Value} {h : ex_Hp} {X : Option Value → ex_Hp → Prop} {o : Nat} {i : Int32} : ex_W 161 281 [l0, l1, l2, l3] (.int i :: .ref o :: S) h X ↔ ex_al (ex_g h o) i (fun z => ex_W 161 282 [l0, l1, l2, l3] (.int z :: S) h X) := w_iald rfl rfl
set_option maxRecDepth 100000 in
theorem s161_282 {l1 l2 l3 : Value} {S : List Value} {h : ex_Hp} {X : Option Value → ex_Hp → Prop} {o : Nat} : ex_W 161 282 [.ref o, l1, l2, l3] S h X ↔ ex_W 161 283 [.ref o, l1, l2, l3] (.ref o :: S) h X := w_st rfl
set_option maxRecDepth 100000 in
theorem s161_283 {l0 l1 l2 : Value} {S : List Value} {h : ex_Hp} {X : Option Value → ex_Hp → Prop} {x : Int32} : ex_W 161 283 [l0, l1, l2, .int x] S h X ↔ ex_W 161 284 [l0, l1, l2, .int x] (.int x :: S) h X := w_st rfl
set_option maxRecDepth 100000 in
theorem s161_284 {l0 l1 l2 l3 : Value} {S : List Value} {h : ex_Hp} {X : Option Value → ex_Hp → Prop} : ex_W 161 284 [l0, l1, l2, l3] S h X ↔ ex_W 161 285 [l0, l1, l2, l3] (.int (nI 2) :: S) h X := w_st rfl
set_option maxRecDepth 100000 in
theorem s161_285 {l0 l1 l2 l3 : Value} {S : List Value} {h : ex_Hp} {X : Option Value → ex_Hp → Prop} {x z : Int32} : ex_W 161 285 [l0, l1, l2, l3] (.int z :: .int x :: S) h X ↔ ex_W 161 286 [l0, l1, l2, l3] (.int (x + z) :: S) h X := w_st rfl
set_option maxRecDepth 100000 in
theorem s161_286 {l0 l1 l2 l3 : Value} {S : List Value} {h : ex_Hp} {X : Option Value → ex_Hp → Prop} {o : Nat} {i : Int32} : ex_W 161 286 [l0, l1, l2, l3] (.int i :: .ref o :: S) h X ↔ ex_al (ex_g h o) i (fun z => ex_W 161 287 [l0, l1, l2, l3] (.int z :: S) h X) := w_iald rfl rfl
set_option maxRecDepth 100000 in
theorem s161_287 {l0 l1 l2 l3 : Value} {S : List Value} {h : ex_Hp} {X : Option Value → ex_Hp → Prop} {x0 : Nat} {x1 : Int32} {x2 : Int32} : ex_W 161 287 [l0, l1, l2, l3] (.int x2 :: .int x1 :: .ref x0 :: S) h X ↔ ex_cat S ≤ 8 ∧ ex_is (ex_g h x0) 8 ∧ ex_W 122 0 [.ref x0, .int x1, .int x2] [] h (fun r h1 => ex_W 161 290 [l0, l1, l2, l3] (r.toList ++ S) h1 X) := w_cav (o := x0) (As := [.int x1, .int x2]) (rest := S) rfl rfl rfl rfl rfl rfl rfl rfl rfl
set_option maxRecDepth 100000 in
theorem s161_290 {l0 l1 l2 l3 : Value} {S : List Value} {h : ex_Hp} {X : Option Value → ex_Hp → Prop} {x z : Int32} : ex_W 161 290 [l0, l1, l2, l3] (.int z :: .int x :: S) h X ↔ if x = z then ex_W 161 866 [l0, l1, l2, l3] S h X else ex_W 161 293 [l0, l1, l2, l3] S h X := (w_st rfl).trans (w_cmp (p := x = z) (by exact decide_eq_true_iff))
set_option maxRecDepth 100000 in
theorem s161_293 {l0 l1 l2 l3 : Value} {S : List Value} {h : ex_Hp} {X : Option Value → ex_Hp → Prop} : ex_W 161 293 [l0, l1, l2, l3] S h X ↔ ex_W 161 294 [l0, l1, l2, l3] (.int (nI 0) :: S) h X := w_st rfl
set_option maxRecDepth 100000 in
theorem s161_294 {l0 l1 l2 l3 : Value} {h : ex_Hp} {X : Option Value → ex_Hp → Prop} {x : Int32} : ex_W 161 294 [l0, l1, l2, l3] [.int x] h X ↔ (x = nI 0 ∨ x = nI 1) ∧ X (some (.int x)) h := w_rez rfl
set_option maxRecDepth 100000 in
theorem s161_295 {l0 l2 l3 : Value} {S : List Value} {h : ex_Hp} {X : Option Value → ex_Hp → Prop} {o : Nat} : ex_W 161 295 [l0, .ref o, l2, l3] S h X ↔ ex_W 161 296 [l0, .ref o, l2, l3] (.ref o :: S) h X := w_st rfl
set_option maxRecDepth 100000 in
theorem s161_296 {l1 l2 l3 : Value} {S : List Value} {h : ex_Hp} {X : Option Value → ex_Hp → Prop} {o : Nat} : ex_W 161 296 [.ref o, l1, l2, l3] S h X ↔ ex_W 161 297 [.ref o, l1, l2, l3] (.ref o :: S) h X := w_st rfl
set_option maxRecDepth 100000 in
theorem s161_297 {l0 l1 l2 : Value} {S : List Value} {h : ex_Hp} {X : Option Value → ex_Hp → Prop} {x : Int32} : ex_W 161 297 [l0, l1, l2, .int x] S h X ↔ ex_W 161 298 [l0, l1, l2, .int x] (.int x :: S) h X := w_st rfl
set_option maxRecDepth 100000 in
theorem s161_298 {l0 l1 l2 l3 : Value} {S : List Value} {h : ex_Hp} {X : Option Value → ex_Hp → Prop} : ex_W 161 298 [l0, l1, l2, l3] S h X ↔ ex_W 161 299 [l0, l1, l2, l3] (.int (nI 1) :: S) h X := w_st rfl
set_option maxRecDepth 100000 in
theorem s161_299 {l0 l1 l2 l3 : Value} {S : List Value} {h : ex_Hp} {X : Option Value → ex_Hp → Prop} {x z : Int32} : ex_W 161 299 [l0, l1, l2, l3] (.int z :: .int x :: S) h X ↔ ex_W 161 300 [l0, l1, l2, l3] (.int (x + z) :: S) h X := w_st rfl
set_option maxRecDepth 100000 in
theorem s161_300 {l0 l1 l2 l3 : Value} {S : List Value} {h : ex_Hp} {X : Option Value → ex_Hp → Prop} {o : Nat} {i : Int32} : ex_W 161 300 [l0, l1, l2, l3] (.int i :: .ref o :: S) h X ↔ ex_al (ex_g h o) i (fun z => ex_W 161 301 [l0, l1, l2, l3] (.int z :: S) h X) := w_iald rfl rfl
set_option maxRecDepth 100000 in
theorem s161_301 {l1 l2 l3 : Value} {S : List Value} {h : ex_Hp} {X : Option Value → ex_Hp → Prop} {o : Nat} : ex_W 161 301 [.ref o, l1, l2, l3] S h X ↔ ex_W 161 302 [.ref o, l1, l2, l3] (.ref o :: S) h X := w_st rfl
set_option maxRecDepth 100000 in
theorem s161_302 {l0 l1 l2 : Value} {S : List Value} {h : ex_Hp} {X : Option Value → ex_Hp → Prop} {x : Int32} : ex_W 161 302 [l0, l1, l2, .int x] S h X ↔ ex_W 161 303 [l0, l1, l2, .int x] (.int x :: S) h X := w_st rfl
set_option maxRecDepth 100000 in
theorem s161_303 {l0 l1 l2 l3 : Value} {S : List Value} {h : ex_Hp} {X : Option Value → ex_Hp → Prop} : ex_W 161 303 [l0, l1, l2, l3] S h X ↔ ex_W 161 304 [l0, l1, l2, l3] (.int (nI 2) :: S) h X := w_st rfl
set_option maxRecDepth 100000 in
theorem s161_304 {l0 l1 l2 l3 : Value} {S : List Value} {h : ex_Hp} {X : Option Value → ex_Hp → Prop} {x z : Int32} : ex_W 161 304 [l0, l1, l2, l3] (.int z :: .int x :: S) h X ↔ ex_W 161 305 [l0, l1, l2, l3] (.int (x + z) :: S) h X := w_st rfl
set_option maxRecDepth 100000 in
theorem s161_305 {l0 l1 l2 l3 : Value} {S : List Value} {h : ex_Hp} {X : Option Value → ex_Hp → Prop} {o : Nat} {i : Int32} : ex_W 161 305 [l0, l1, l2, l3] (.int i :: .ref o :: S) h X ↔ ex_al (ex_g h o) i (fun z => ex_W 161 306 [l0, l1, l2, l3] (.int z :: S) h X) := w_iald rfl rfl
set_option maxRecDepth 100000 in
theorem s161_306 {l0 l1 l2 l3 : Value} {S : List Value} {h : ex_Hp} {X : Option Value → ex_Hp → Prop} {x0 : Nat} {x1 : Int32} {x2 : Int32} : ex_W 161 306 [l0, l1, l2, l3] (.int x2 :: .int x1 :: .ref x0 :: S) h X ↔ ex_cat S ≤ 8 ∧ ex_is (ex_g h x0) 7 ∧ ex_W 68 0 [.ref x0, .int x1, .int x2] [] h (fun r h1 => ex_W 161 309 [l0, l1, l2, l3] (r.toList ++ S) h1 X) := w_cav (o := x0) (As := [.int x1, .int x2]) (rest := S) rfl rfl rfl rfl rfl rfl rfl rfl rfl
set_option maxRecDepth 100000 in
theorem s161_309 {l0 l1 l3 : Value} {S : List Value} {h : ex_Hp} {X : Option Value → ex_Hp → Prop} {o : Nat} : ex_W 161 309 [l0, l1, .ref o, l3] S h X ↔ ex_W 161 310 [l0, l1, .ref o, l3] (.ref o :: S) h X := w_st rfl
set_option maxRecDepth 100000 in
theorem s161_310 {l1 l2 l3 : Value} {S : List Value} {h : ex_Hp} {X : Option Value → ex_Hp → Prop} {o : Nat} : ex_W 161 310 [.ref o, l1, l2, l3] S h X ↔ ex_W 161 311 [.ref o, l1, l2, l3] (.ref o :: S) h X := w_st rfl
set_option maxRecDepth 100000 in
theorem s161_311 {l0 l1 l2 : Value} {S : List Value} {h : ex_Hp} {X : Option Value → ex_Hp → Prop} {x : Int32} : ex_W 161 311 [l0, l1, l2, .int x] S h X ↔ ex_W 161 312 [l0, l1, l2, .int x] (.int x :: S) h X := w_st rfl
set_option maxRecDepth 100000 in
theorem s161_312 {l0 l1 l2 l3 : Value} {S : List Value} {h : ex_Hp} {X : Option Value → ex_Hp → Prop} : ex_W 161 312 [l0, l1, l2, l3] S h X ↔ ex_W 161 313 [l0, l1, l2, l3] (.int (nI 1) :: S) h X := w_st rfl
set_option maxRecDepth 100000 in
theorem s161_313 {l0 l1 l2 l3 : Value} {S : List Value} {h : ex_Hp} {X : Option Value → ex_Hp → Prop} {x z : Int32} : ex_W 161 313 [l0, l1, l2, l3] (.int z :: .int x :: S) h X ↔ ex_W 161 314 [l0, l1, l2, l3] (.int (x + z) :: S) h X := w_st rfl
set_option maxRecDepth 100000 in
theorem s161_314 {l0 l1 l2 l3 : Value} {S : List Value} {h : ex_Hp} {X : Option Value → ex_Hp → Prop} {o : Nat} {i : Int32} : ex_W 161 314 [l0, l1, l2, l3] (.int i :: .ref o :: S) h X ↔ ex_al (ex_g h o) i (fun z => ex_W 161 315 [l0, l1, l2, l3] (.int z :: S) h X) := w_iald rfl rfl
set_option maxRecDepth 100000 in
theorem s161_315 {l1 l2 l3 : Value} {S : List Value} {h : ex_Hp} {X : Option Value → ex_Hp → Prop} {o : Nat} : ex_W 161 315 [.ref o, l1, l2, l3] S h X ↔ ex_W 161 316 [.ref o, l1, l2, l3] (.ref o :: S) h X := w_st rfl
set_option maxRecDepth 100000 in
theorem s161_316 {l0 l1 l2 : Value} {S : List Value} {h : ex_Hp} {X : Option Value → ex_Hp → Prop} {x : Int32} : ex_W 161 316 [l0, l1, l2, .int x] S h X ↔ ex_W 161 317 [l0, l1, l2, .int x] (.int x :: S) h X := w_st rfl
set_option maxRecDepth 100000 in
theorem s161_317 {l0 l1 l2 l3 : Value} {S : List Value} {h : ex_Hp} {X : Option Value → ex_Hp → Prop} : ex_W 161 317 [l0, l1, l2, l3] S h X ↔ ex_W 161 318 [l0, l1, l2, l3] (.int (nI 2) :: S) h X := w_st rfl
set_option maxRecDepth 100000 in
theorem s161_318 {l0 l1 l2 l3 : Value} {S : List Value} {h : ex_Hp} {X : Option Value → ex_Hp → Prop} {x z : Int32} : ex_W 161 318 [l0, l1, l2, l3] (.int z :: .int x :: S) h X ↔ ex_W 161 319 [l0, l1, l2, l3] (.int (x + z) :: S) h X := w_st rfl
set_option maxRecDepth 100000 in
theorem s161_319 {l0 l1 l2 l3 : Value} {S : List Value} {h : ex_Hp} {X : Option Value → ex_Hp → Prop} {o : Nat} {i : Int32} : ex_W 161 319 [l0, l1, l2, l3] (.int i :: .ref o :: S) h X ↔ ex_al (ex_g h o) i (fun z => ex_W 161 320 [l0, l1, l2, l3] (.int z :: S) h X) := w_iald rfl rfl
set_option maxRecDepth 100000 in
theorem s161_320 {l0 l1 l2 l3 : Value} {S : List Value} {h : ex_Hp} {X : Option Value → ex_Hp → Prop} {x0 : Nat} {x1 : Int32} {x2 : Int32} : ex_W 161 320 [l0, l1, l2, l3] (.int x2 :: .int x1 :: .ref x0 :: S) h X ↔ ex_cat S ≤ 8 ∧ ex_is (ex_g h x0) 8 ∧ ex_W 123 0 [.ref x0, .int x1, .int x2] [] h (fun r h1 => ex_W 161 323 [l0, l1, l2, l3] (r.toList ++ S) h1 X) := w_cav (o := x0) (As := [.int x1, .int x2]) (rest := S) rfl rfl rfl rfl rfl rfl rfl rfl rfl
set_option maxRecDepth 100000 in
theorem s161_323 {l0 l1 l2 l3 : Value} {S : List Value} {h : ex_Hp} {X : Option Value → ex_Hp → Prop} {x z : Int32} : ex_W 161 323 [l0, l1, l2, l3] (.int z :: .int x :: S) h X ↔ if x = z then ex_W 161 866 [l0, l1, l2, l3] S h X else ex_W 161 326 [l0, l1, l2, l3] S h X := (w_st rfl).trans (w_cmp (p := x = z) (by exact decide_eq_true_iff))
set_option maxRecDepth 100000 in
theorem s161_326 {l0 l1 l2 l3 : Value} {S : List Value} {h : ex_Hp} {X : Option Value → ex_Hp → Prop} : ex_W 161 326 [l0, l1, l2, l3] S h X ↔ ex_W 161 327 [l0, l1, l2, l3] (.int (nI 0) :: S) h X := w_st rfl
set_option maxRecDepth 100000 in
theorem s161_327 {l0 l1 l2 l3 : Value} {h : ex_Hp} {X : Option Value → ex_Hp → Prop} {x : Int32} : ex_W 161 327 [l0, l1, l2, l3] [.int x] h X ↔ (x = nI 0 ∨ x = nI 1) ∧ X (some (.int x)) h := w_rez rfl
set_option maxRecDepth 100000 in
theorem s161_328 {l0 l2 l3 : Value} {S : List Value} {h : ex_Hp} {X : Option Value → ex_Hp → Prop} {o : Nat} : ex_W 161 328 [l0, .ref o, l2, l3] S h X ↔ ex_W 161 329 [l0, .ref o, l2, l3] (.ref o :: S) h X := w_st rfl
set_option maxRecDepth 100000 in
theorem s161_329 {l1 l2 l3 : Value} {S : List Value} {h : ex_Hp} {X : Option Value → ex_Hp → Prop} {o : Nat} : ex_W 161 329 [.ref o, l1, l2, l3] S h X ↔ ex_W 161 330 [.ref o, l1, l2, l3] (.ref o :: S) h X := w_st rfl
set_option maxRecDepth 100000 in
theorem s161_330 {l0 l1 l2 : Value} {S : List Value} {h : ex_Hp} {X : Option Value → ex_Hp → Prop} {x : Int32} : ex_W 161 330 [l0, l1, l2, .int x] S h X ↔ ex_W 161 331 [l0, l1, l2, .int x] (.int x :: S) h X := w_st rfl
set_option maxRecDepth 100000 in
theorem s161_331 {l0 l1 l2 l3 : Value} {S : List Value} {h : ex_Hp} {X : Option Value → ex_Hp → Prop} : ex_W 161 331 [l0, l1, l2, l3] S h X ↔ ex_W 161 332 [l0, l1, l2, l3] (.int (nI 1) :: S) h X := w_st rfl
set_option maxRecDepth 100000 in
theorem s161_332 {l0 l1 l2 l3 : Value} {S : List Value} {h : ex_Hp} {X : Option Value → ex_Hp → Prop} {x z : Int32} : ex_W 161 332 [l0, l1, l2, l3] (.int z :: .int x :: S) h X ↔ ex_W 161 333 [l0, l1, l2, l3] (.int (x + z) :: S) h X := w_st rfl
set_option maxRecDepth 100000 in
theorem s161_333 {l0 l1 l2 l3 : Value} {S : List Value} {h : ex_Hp} {X : Option Value → ex_Hp → Prop} {o : Nat} {i : Int32} : ex_W 161 333 [l0, l1, l2, l3] (.int i :: .ref o :: S) h X ↔ ex_al (ex_g h o) i (fun z => ex_W 161 334 [l0, l1, l2, l3] (.int z :: S) h X) := w_iald rfl rfl
set_option maxRecDepth 100000 in
theorem s161_334 {l1 l2 l3 : Value} {S : List Value} {h : ex_Hp} {X : Option Value → ex_Hp → Prop} {o : Nat} : ex_W 161 334 [.ref o, l1, l2, l3] S h X ↔ ex_W 161 335 [.ref o, l1, l2, l3] (.ref o :: S) h X := w_st rfl
set_option maxRecDepth 100000 in
theorem s161_335 {l0 l1 l2 : Value} {S : List Value} {h : ex_Hp} {X : Option Value → ex_Hp → Prop} {x : Int32} : ex_W 161 335 [l0, l1, l2, .int x] S h X ↔ ex_W 161 336 [l0, l1, l2, .int x] (.int x :: S) h X := w_st rfl
set_option maxRecDepth 100000 in
theorem s161_336 {l0 l1 l2 l3 : Value} {S : List Value} {h : ex_Hp} {X : Option Value → ex_Hp → Prop} : ex_W 161 336 [l0, l1, l2, l3] S h X ↔ ex_W 161 337 [l0, l1, l2, l3] (.int (nI 2) :: S) h X := w_st rfl
set_option maxRecDepth 100000 in
theorem s161_337 {l0 l1 l2 l3 : Value} {S : List Value} {h : ex_Hp} {X : Option Value → ex_Hp → Prop} {x z : Int32} : ex_W 161 337 [l0, l1, l2, l3] (.int z :: .int x :: S) h X ↔ ex_W 161 338 [l0, l1, l2, l3] (.int (x + z) :: S) h X := w_st rfl
set_option maxRecDepth 100000 in
theorem s161_338 {l0 l1 l2 l3 : Value} {S : List Value} {h : ex_Hp} {X : Option Value → ex_Hp → Prop} {o : Nat} {i : Int32} : ex_W 161 338 [l0, l1, l2, l3] (.int i :: .ref o :: S) h X ↔ ex_al (ex_g h o) i (fun z => ex_W 161 339 [l0, l1, l2, l3] (.int z :: S) h X) := w_iald rfl rfl
set_option maxRecDepth 100000 in
theorem s161_339 {l1 l2 l3 : Value} {S : List Value} {h : ex_Hp} {X : Option Value → ex_Hp → Prop} {o : Nat} : ex_W 161 339 [.ref o, l1, l2, l3] S h X ↔ ex_W 161 340 [.ref o, l1, l2, l3] (.ref o :: S) h X := w_st rfl
set_option maxRecDepth 100000 in
theorem s161_340 {l0 l1 l2 : Value} {S : List Value} {h : ex_Hp} {X : Option Value → ex_Hp → Prop} {x : Int32} : ex_W 161 340 [l0, l1, l2, .int x] S h X ↔ ex_W 161 341 [l0, l1, l2, .int x] (.int x :: S) h X := w_st rfl
set_option maxRecDepth 100000 in
theorem s161_341 {l0 l1 l2 l3 : Value} {S : List Value} {h : ex_Hp} {X : Option Value → ex_Hp → Prop} : ex_W 161 341 [l0, l1, l2, l3] S h X ↔ ex_W 161 342 [l0, l1, l2, l3] (.int (nI 3) :: S) h X := w_st rfl
set_option maxRecDepth 100000 in
theorem s161_342 {l0 l1 l2 l3 : Value} {S : List Value} {h : ex_Hp} {X : Option Value → ex_Hp → Prop} {x z : Int32} : ex_W 161 342 [l0, l1, l2, l3] (.int z :: .int x :: S) h X ↔ ex_W 161 343 [l0, l1, l2, l3] (.int (x + z) :: S) h X := w_st rfl
set_option maxRecDepth 100000 in
theorem s161_343 {l0 l1 l2 l3 : Value} {S : List Value} {h : ex_Hp} {X : Option Value → ex_Hp → Prop} {o : Nat} {i : Int32} : ex_W 161 343 [l0, l1, l2, l3] (.int i :: .ref o :: S) h X ↔ ex_al (ex_g h o) i (fun z => ex_W 161 344 [l0, l1, l2, l3] (.int z :: S) h X) := w_iald rfl rfl
set_option maxRecDepth 100000 in
theorem s161_344 {l0 l1 l2 l3 : Value} {S : List Value} {h : ex_Hp} {X : Option Value → ex_Hp → Prop} {x0 : Nat} {x1 : Int32} {x2 : Int32} {x3 : Int32} : ex_W 161 344 [l0, l1, l2, l3] (.int x3 :: .int x2 :: .int x1 :: .ref x0 :: S) h X ↔ ex_cat S ≤ 8 ∧ ex_is (ex_g h x0) 7 ∧ ex_W 69 0 [.ref x0, .int x1, .int x2, .int x3] [] h (fun r h1 => ex_W 161 347 [l0, l1, l2, l3] (r.toList ++ S) h1 X) := w_cav (o := x0) (As := [.int x1, .int x2, .int x3]) (rest := S) rfl rfl rfl rfl rfl rfl rfl rfl rfl
set_option maxRecDepth 100000 in
theorem s161_347 {l0 l1 l3 : Value} {S : List Value} {h : ex_Hp} {X : Option Value → ex_Hp → Prop} {o : Nat} : ex_W 161 347 [l0, l1, .ref o, l3] S h X ↔ ex_W 161 348 [l0, l1, .ref o, l3] (.ref o :: S) h X := w_st rfl
set_option maxRecDepth 100000 in
theorem s161_348 {l1 l2 l3 : Value} {S : List Value} {h : ex_Hp} {X : Option Value → ex_Hp → Prop} {o : Nat} : ex_W 161 348 [.ref o, l1, l2, l3] S h X ↔ ex_W 161 349 [.ref o, l1, l2, l3] (.ref o :: S) h X := w_st rfl
set_option maxRecDepth 100000 in
theorem s161_349 {l0 l1 l2 : Value} {S : List Value} {h : ex_Hp} {X : Option Value → ex_Hp → Prop} {x : Int32} : ex_W 161 349 [l0, l1, l2, .int x] S h X ↔ ex_W 161 350 [l0, l1, l2, .int x] (.int x :: S) h X := w_st rfl
set_option maxRecDepth 100000 in
theorem s161_350 {l0 l1 l2 l3 : Value} {S : List Value} {h : ex_Hp} {X : Option Value → ex_Hp → Prop} : ex_W 161 350 [l0, l1, l2, l3] S h X ↔ ex_W 161 351 [l0, l1, l2, l3] (.int (nI 1) :: S) h X := w_st rfl
set_option maxRecDepth 100000 in
theorem s161_351 {l0 l1 l2 l3 : Value} {S : List Value} {h : ex_Hp} {X : Option Value → ex_Hp → Prop} {x z : Int32} : ex_W 161 351 [l0, l1, l2, l3] (.int z :: .int x :: S) h X ↔ ex_W 161 352 [l0, l1, l2, l3] (.int (x + z) :: S) h X := w_st rfl
set_option maxRecDepth 100000 in
theorem s161_352 {l0 l1 l2 l3 : Value} {S : List Value} {h : ex_Hp} {X : Option Value → ex_Hp → Prop} {o : Nat} {i : Int32} : ex_W 161 352 [l0, l1, l2, l3] (.int i :: .ref o :: S) h X ↔ ex_al (ex_g h o) i (fun z => ex_W 161 353 [l0, l1, l2, l3] (.int z :: S) h X) := w_iald rfl rfl
set_option maxRecDepth 100000 in
theorem s161_353 {l1 l2 l3 : Value} {S : List Value} {h : ex_Hp} {X : Option Value → ex_Hp → Prop} {o : Nat} : ex_W 161 353 [.ref o, l1, l2, l3] S h X ↔ ex_W 161 354 [.ref o, l1, l2, l3] (.ref o :: S) h X := w_st rfl
set_option maxRecDepth 100000 in
theorem s161_354 {l0 l1 l2 : Value} {S : List Value} {h : ex_Hp} {X : Option Value → ex_Hp → Prop} {x : Int32} : ex_W 161 354 [l0, l1, l2, .int x] S h X ↔ ex_W 161 355 [l0, l1, l2, .int x] (.int x :: S) h X := w_st rfl
set_option maxRecDepth 100000 in
theorem s161_355 {l0 l1 l2 l3 : Value} {S : List Value} {h : ex_Hp} {X : Option Value → ex_Hp → Prop} : ex_W 161 355 [l0, l1, l2, l3] S h X ↔ ex_W 161 356 [l0, l1, l2, l3] (.int (nI 2) :: S) h X := w_st rfl
set_option maxRecDepth 100000 in
theorem s161_356 {l0 l1 l2 l3 : Value} {S : List Value} {h : ex_Hp} {X : Option Value → ex_Hp → Prop} {x z : Int32} : ex_W 161 356 [l0, l1, l2, l3] (.int z :: .int x :: S) h X ↔ ex_W 161 357 [l0, l1, l2, l3] (.int (x + z) :: S) h X := w_st rfl
set_option maxRecDepth 100000 in
theorem s161_357 {l0 l1 l2 l3 : Value} {S : List Value} {h : ex_Hp} {X : Option Value → ex_Hp → Prop} {o : Nat} {i : Int32} : ex_W 161 357 [l0, l1, l2, l3] (.int i :: .ref o :: S) h X ↔ ex_al (ex_g h o) i (fun z => ex_W 161 358 [l0, l1, l2, l3] (.int z :: S) h X) := w_iald rfl rfl
set_option maxRecDepth 100000 in
theorem s161_358 {l1 l2 l3 : Value} {S : List Value} {h : ex_Hp} {X : Option Value → ex_Hp → Prop} {o : Nat} : ex_W 161 358 [.ref o, l1, l2, l3] S h X ↔ ex_W 161 359 [.ref o, l1, l2, l3] (.ref o :: S) h X := w_st rfl
set_option maxRecDepth 100000 in
theorem s161_359 {l0 l1 l2 : Value} {S : List Value} {h : ex_Hp} {X : Option Value → ex_Hp → Prop} {x : Int32} : ex_W 161 359 [l0, l1, l2, .int x] S h X ↔ ex_W 161 360 [l0, l1, l2, .int x] (.int x :: S) h X := w_st rfl
set_option maxRecDepth 100000 in
theorem s161_360 {l0 l1 l2 l3 : Value} {S : List Value} {h : ex_Hp} {X : Option Value → ex_Hp → Prop} : ex_W 161 360 [l0, l1, l2, l3] S h X ↔ ex_W 161 361 [l0, l1, l2, l3] (.int (nI 3) :: S) h X := w_st rfl
set_option maxRecDepth 100000 in
theorem s161_361 {l0 l1 l2 l3 : Value} {S : List Value} {h : ex_Hp} {X : Option Value → ex_Hp → Prop} {x z : Int32} : ex_W 161 361 [l0, l1, l2, l3] (.int z :: .int x :: S) h X ↔ ex_W 161 362 [l0, l1, l2, l3] (.int (x + z) :: S) h X := w_st rfl
set_option maxRecDepth 100000 in
theorem s161_362 {l0 l1 l2 l3 : Value} {S : List Value} {h : ex_Hp} {X : Option Value → ex_Hp → Prop} {o : Nat} {i : Int32} : ex_W 161 362 [l0, l1, l2, l3] (.int i :: .ref o :: S) h X ↔ ex_al (ex_g h o) i (fun z => ex_W 161 363 [l0, l1, l2, l3] (.int z :: S) h X) := w_iald rfl rfl
set_option maxRecDepth 100000 in
theorem s161_363 {l0 l1 l2 l3 : Value} {S : List Value} {h : ex_Hp} {X : Option Value → ex_Hp → Prop} {x0 : Nat} {x1 : Int32} {x2 : Int32} {x3 : Int32} : ex_W 161 363 [l0, l1, l2, l3] (.int x3 :: .int x2 :: .int x1 :: .ref x0 :: S) h X ↔ ex_cat S ≤ 8 ∧ ex_is (ex_g h x0) 8 ∧ ex_W 124 0 [.ref x0, .int x1, .int x2, .int x3] [] h (fun r h1 => ex_W 161 366 [l0, l1, l2, l3] (r.toList ++ S) h1 X) := w_cav (o := x0) (As := [.int x1, .int x2, .int x3]) (rest := S) rfl rfl rfl rfl rfl rfl rfl rfl rfl
set_option maxRecDepth 100000 in
theorem s161_366 {l0 l1 l2 l3 : Value} {S : List Value} {h : ex_Hp} {X : Option Value → ex_Hp → Prop} {x z : Int32} : ex_W 161 366 [l0, l1, l2, l3] (.int z :: .int x :: S) h X ↔ if x = z then ex_W 161 866 [l0, l1, l2, l3] S h X else ex_W 161 369 [l0, l1, l2, l3] S h X := (w_st rfl).trans (w_cmp (p := x = z) (by exact decide_eq_true_iff))
set_option maxRecDepth 100000 in
theorem s161_369 {l0 l1 l2 l3 : Value} {S : List Value} {h : ex_Hp} {X : Option Value → ex_Hp → Prop} : ex_W 161 369 [l0, l1, l2, l3] S h X ↔ ex_W 161 370 [l0, l1, l2, l3] (.int (nI 0) :: S) h X := w_st rfl
set_option maxRecDepth 100000 in
theorem s161_370 {l0 l1 l2 l3 : Value} {h : ex_Hp} {X : Option Value → ex_Hp → Prop} {x : Int32} : ex_W 161 370 [l0, l1, l2, l3] [.int x] h X ↔ (x = nI 0 ∨ x = nI 1) ∧ X (some (.int x)) h := w_rez rfl
set_option maxRecDepth 100000 in
theorem s161_371 {l0 l2 l3 : Value} {S : List Value} {h : ex_Hp} {X : Option Value → ex_Hp → Prop} {o : Nat} : ex_W 161 371 [l0, .ref o, l2, l3] S h X ↔ ex_W 161 372 [l0, .ref o, l2, l3] (.ref o :: S) h X := w_st rfl
set_option maxRecDepth 100000 in
theorem s161_372 {l1 l2 l3 : Value} {S : List Value} {h : ex_Hp} {X : Option Value → ex_Hp → Prop} {o : Nat} : ex_W 161 372 [.ref o, l1, l2, l3] S h X ↔ ex_W 161 373 [.ref o, l1, l2, l3] (.ref o :: S) h X := w_st rfl
set_option maxRecDepth 100000 in
theorem s161_373 {l0 l1 l2 : Value} {S : List Value} {h : ex_Hp} {X : Option Value → ex_Hp → Prop} {x : Int32} : ex_W 161 373 [l0, l1, l2, .int x] S h X ↔ ex_W 161 374 [l0, l1, l2, .int x] (.int x :: S) h X := w_st rfl
set_option maxRecDepth 100000 in
theorem s161_374 {l0 l1 l2 l3 : Value} {S : List Value} {h : ex_Hp} {X : Option Value → ex_Hp → Prop} : ex_W 161 374 [l0, l1, l2, l3] S h X ↔ ex_W 161 375 [l0, l1, l2, l3] (.int (nI 1) :: S) h X := w_st rfl
set_option maxRecDepth 100000 in
theorem s161_375 {l0 l1 l2 l3 : Value} {S : List Value} {h : ex_Hp} {X : Option Value → ex_Hp → Prop} {x z : Int32} : ex_W 161 375 [l0, l1, l2, l3] (.int z :: .int x :: S) h X ↔ ex_W 161 376 [l0, l1, l2, l3] (.int (x + z) :: S) h X := w_st rfl
set_option maxRecDepth 100000 in
theorem s161_376 {l0 l1 l2 l3 : Value} {S : List Value} {h : ex_Hp} {X : Option Value → ex_Hp → Prop} {o : Nat} {i : Int32} : ex_W 161 376 [l0, l1, l2, l3] (.int i :: .ref o :: S) h X ↔ ex_al (ex_g h o) i (fun z => ex_W 161 377 [l0, l1, l2, l3] (.int z :: S) h X) := w_iald rfl rfl
set_option maxRecDepth 100000 in
theorem s161_377 {l1 l2 l3 : Value} {S : List Value} {h : ex_Hp} {X : Option Value → ex_Hp → Prop} {o : Nat} : ex_W 161 377 [.ref o, l1, l2, l3] S h X ↔ ex_W 161 378 [.ref o, l1, l2, l3] (.ref o :: S) h X := w_st rfl
set_option maxRecDepth 100000 in
theorem s161_378 {l0 l1 l2 : Value} {S : List Value} {h : ex_Hp} {X : Option Value → ex_Hp → Prop} {x : Int32} : ex_W 161 378 [l0, l1, l2, .int x] S h X ↔ ex_W 161 379 [l0, l1, l2, .int x] (.int x :: S) h X := w_st rfl
set_option maxRecDepth 100000 in
theorem s161_379 {l0 l1 l2 l3 : Value} {S : List Value} {h : ex_Hp} {X : Option Value → ex_Hp → Prop} : ex_W 161 379 [l0, l1, l2, l3] S h X ↔ ex_W 161 380 [l0, l1, l2, l3] (.int (nI 2) :: S) h X := w_st rfl
set_option maxRecDepth 100000 in
theorem s161_380 {l0 l1 l2 l3 : Value} {S : List Value} {h : ex_Hp} {X : Option Value → ex_Hp → Prop} {x z : Int32} : ex_W 161 380 [l0, l1, l2, l3] (.int z :: .int x :: S) h X ↔ ex_W 161 381 [l0, l1, l2, l3] (.int (x + z) :: S) h X := w_st rfl
set_option maxRecDepth 100000 in
theorem s161_381 {l0 l1 l2 l3 : Value} {S : List Value} {h : ex_Hp} {X : Option Value → ex_Hp → Prop} {o : Nat} {i : Int32} : ex_W 161 381 [l0, l1, l2, l3] (.int i :: .ref o :: S) h X ↔ ex_al (ex_g h o) i (fun z => ex_W 161 382 [l0, l1, l2, l3] (.int z :: S) h X) := w_iald rfl rfl
set_option maxRecDepth 100000 in
theorem s161_382 {l0 l1 l2 l3 : Value} {S : List Value} {h : ex_Hp} {X : Option Value → ex_Hp → Prop} {x0 : Nat} {x1 : Int32} {x2 : Int32} : ex_W 161 382 [l0, l1, l2, l3] (.int x2 :: .int x1 :: .ref x0 :: S) h X ↔ ex_cat S ≤ 8 ∧ ex_is (ex_g h x0) 7 ∧ ex_W 70 0 [.ref x0, .int x1, .int x2] [] h (fun r h1 => ex_W 161 385 [l0, l1, l2, l3] (r.toList ++ S) h1 X) := w_cav (o := x0) (As := [.int x1, .int x2]) (rest := S) rfl rfl rfl rfl rfl rfl rfl rfl rfl
set_option maxRecDepth 100000 in
theorem s161_385 {l0 l1 l3 : Value} {S : List Value} {h : ex_Hp} {X : Option Value → ex_Hp → Prop} {o : Nat} : ex_W 161 385 [l0, l1, .ref o, l3] S h X ↔ ex_W 161 386 [l0, l1, .ref o, l3] (.ref o :: S) h X := w_st rfl
set_option maxRecDepth 100000 in
theorem s161_386 {l1 l2 l3 : Value} {S : List Value} {h : ex_Hp} {X : Option Value → ex_Hp → Prop} {o : Nat} : ex_W 161 386 [.ref o, l1, l2, l3] S h X ↔ ex_W 161 387 [.ref o, l1, l2, l3] (.ref o :: S) h X := w_st rfl
set_option maxRecDepth 100000 in
theorem s161_387 {l0 l1 l2 : Value} {S : List Value} {h : ex_Hp} {X : Option Value → ex_Hp → Prop} {x : Int32} : ex_W 161 387 [l0, l1, l2, .int x] S h X ↔ ex_W 161 388 [l0, l1, l2, .int x] (.int x :: S) h X := w_st rfl
set_option maxRecDepth 100000 in
theorem s161_388 {l0 l1 l2 l3 : Value} {S : List Value} {h : ex_Hp} {X : Option Value → ex_Hp → Prop} : ex_W 161 388 [l0, l1, l2, l3] S h X ↔ ex_W 161 389 [l0, l1, l2, l3] (.int (nI 1) :: S) h X := w_st rfl
set_option maxRecDepth 100000 in
theorem s161_389 {l0 l1 l2 l3 : Value} {S : List Value} {h : ex_Hp} {X : Option Value → ex_Hp → Prop} {x z : Int32} : ex_W 161 389 [l0, l1, l2, l3] (.int z :: .int x :: S) h X ↔ ex_W 161 390 [l0, l1, l2, l3] (.int (x + z) :: S) h X := w_st rfl
set_option maxRecDepth 100000 in
theorem s161_390 {l0 l1 l2 l3 : Value} {S : List Value} {h : ex_Hp} {X : Option Value → ex_Hp → Prop} {o : Nat} {i : Int32} : ex_W 161 390 [l0, l1, l2, l3] (.int i :: .ref o :: S) h X ↔ ex_al (ex_g h o) i (fun z => ex_W 161 391 [l0, l1, l2, l3] (.int z :: S) h X) := w_iald rfl rfl
set_option maxRecDepth 100000 in
theorem s161_391 {l1 l2 l3 : Value} {S : List Value} {h : ex_Hp} {X : Option Value → ex_Hp → Prop} {o : Nat} : ex_W 161 391 [.ref o, l1, l2, l3] S h X ↔ ex_W 161 392 [.ref o, l1, l2, l3] (.ref o :: S) h X := w_st rfl
set_option maxRecDepth 100000 in
theorem s161_392 {l0 l1 l2 : Value} {S : List Value} {h : ex_Hp} {X : Option Value → ex_Hp → Prop} {x : Int32} : ex_W 161 392 [l0, l1, l2, .int x] S h X ↔ ex_W 161 393 [l0, l1, l2, .int x] (.int x :: S) h X := w_st rfl
set_option maxRecDepth 100000 in
theorem s161_393 {l0 l1 l2 l3 : Value} {S : List Value} {h : ex_Hp} {X : Option Value → ex_Hp → Prop} : ex_W 161 393 [l0, l1, l2, l3] S h X ↔ ex_W 161 394 [l0, l1, l2, l3] (.int (nI 2) :: S) h X := w_st rfl
set_option maxRecDepth 100000 in
theorem s161_394 {l0 l1 l2 l3 : Value} {S : List Value} {h : ex_Hp} {X : Option Value → ex_Hp → Prop} {x z : Int32} : ex_W 161 394 [l0, l1, l2, l3] (.int z :: .int x :: S) h X ↔ ex_W 161 395 [l0, l1, l2, l3] (.int (x + z) :: S) h X := w_st rfl
set_option maxRecDepth 100000 in
theorem s161_395 {l0 l1 l2 l3 : Value} {S : List Value} {h : ex_Hp} {X : Option Value → ex_Hp → Prop} {o : Nat} {i : Int32} : ex_W 161 395 [l0, l1, l2, l3] (.int i :: .ref o :: S) h X ↔ ex_al (ex_g h o) i (fun z => ex_W 161 396 [l0, l1, l2, l3] (.int z :: S) h X) := w_iald rfl rfl
set_option maxRecDepth 100000 in
theorem s161_396 {l0 l1 l2 l3 : Value} {S : List Value} {h : ex_Hp} {X : Option Value → ex_Hp → Prop} {x0 : Nat} {x1 : Int32} {x2 : Int32} : ex_W 161 396 [l0, l1, l2, l3] (.int x2 :: .int x1 :: .ref x0 :: S) h X ↔ ex_cat S ≤ 8 ∧ ex_is (ex_g h x0) 8 ∧ ex_W 125 0 [.ref x0, .int x1, .int x2, oU] [] h (fun r h1 => ex_W 161 399 [l0, l1, l2, l3] (r.toList ++ S) h1 X) := w_cav (o := x0) (As := [.int x1, .int x2]) (rest := S) rfl rfl rfl rfl rfl rfl rfl rfl rfl
set_option maxRecDepth 100000 in
theorem s161_399 {l0 l1 l2 l3 : Value} {S : List Value} {h : ex_Hp} {X : Option Value → ex_Hp → Prop} {x z : Int32} : ex_W 161 399 [l0, l1, l2, l3] (.int z :: .int x :: S) h X ↔ if x = z then ex_W 161 866 [l0, l1, l2, l3] S h X else ex_W 161 402 [l0, l1, l2, l3] S h X := (w_st rfl).trans (w_cmp (p := x = z) (by exact decide_eq_true_iff))
set_option maxRecDepth 100000 in
theorem s161_402 {l0 l1 l2 l3 : Value} {S : List Value} {h : ex_Hp} {X : Option Value → ex_Hp → Prop} : ex_W 161 402 [l0, l1, l2, l3] S h X ↔ ex_W 161 403 [l0, l1, l2, l3] (.int (nI 0) :: S) h X := w_st rfl
set_option maxRecDepth 100000 in
theorem s161_403 {l0 l1 l2 l3 : Value} {h : ex_Hp} {X : Option Value → ex_Hp → Prop} {x : Int32} : ex_W 161 403 [l0, l1, l2, l3] [.int x] h X ↔ (x = nI 0 ∨ x = nI 1) ∧ X (some (.int x)) h := w_rez rfl
set_option maxRecDepth 100000 in
theorem s161_404 {l0 l2 l3 : Value} {S : List Value} {h : ex_Hp} {X : Option Value → ex_Hp → Prop} {o : Nat} : ex_W 161 404 [l0, .ref o, l2, l3] S h X ↔ ex_W 161 405 [l0, .ref o, l2, l3] (.ref o :: S) h X := w_st rfl
set_option maxRecDepth 100000 in
theorem s161_405 {l1 l2 l3 : Value} {S : List Value} {h : ex_Hp} {X : Option Value → ex_Hp → Prop} {o : Nat} : ex_W 161 405 [.ref o, l1, l2, l3] S h X ↔ ex_W 161 406 [.ref o, l1, l2, l3] (.ref o :: S) h X := w_st rfl
set_option maxRecDepth 100000 in
theorem s161_406 {l0 l1 l2 : Value} {S : List Value} {h : ex_Hp} {X : Option Value → ex_Hp → Prop} {x : Int32} : ex_W 161 406 [l0, l1, l2, .int x] S h X ↔ ex_W 161 407 [l0, l1, l2, .int x] (.int x :: S) h X := w_st rfl
set_option maxRecDepth 100000 in
theorem s161_407 {l0 l1 l2 l3 : Value} {S : List Value} {h : ex_Hp} {X : Option Value → ex_Hp → Prop} : ex_W 161 407 [l0, l1, l2, l3] S h X ↔ ex_W 161 408 [l0, l1, l2, l3] (.int (nI 1) :: S) h X := w_st rfl
set_option maxRecDepth 100000 in
theorem s161_408 {l0 l1 l2 l3 : Value} {S : List Value} {h : ex_Hp} {X : Option Value → ex_Hp → Prop} {x z : Int32} : ex_W 161 408 [l0, l1, l2, l3] (.int z :: .int x :: S) h X ↔ ex_W 161 409 [l0, l1, l2, l3] (.int (x + z) :: S) h X := w_st rfl
set_option maxRecDepth 100000 in
theorem s161_409 {l0 l1 l2 l3 : Value} {S : List Value} {h : ex_Hp} {X : Option Value → ex_Hp → Prop} {o : Nat} {i : Int32} : ex_W 161 409 [l0, l1, l2, l3] (.int i :: .ref o :: S) h X ↔ ex_al (ex_g h o) i (fun z => ex_W 161 410 [l0, l1, l2, l3] (.int z :: S) h X) := w_iald rfl rfl
set_option maxRecDepth 100000 in
theorem s161_410 {l1 l2 l3 : Value} {S : List Value} {h : ex_Hp} {X : Option Value → ex_Hp → Prop} {o : Nat} : ex_W 161 410 [.ref o, l1, l2, l3] S h X ↔ ex_W 161 411 [.ref o, l1, l2, l3] (.ref o :: S) h X := w_st rfl
set_option maxRecDepth 100000 in
theorem s161_411 {l0 l1 l2 : Value} {S : List Value} {h : ex_Hp} {X : Option Value → ex_Hp → Prop} {x : Int32} : ex_W 161 411 [l0, l1, l2, .int x] S h X ↔ ex_W 161 412 [l0, l1, l2, .int x] (.int x :: S) h X := w_st rfl
set_option maxRecDepth 100000 in
theorem s161_412 {l0 l1 l2 l3 : Value} {S : List Value} {h : ex_Hp} {X : Option Value → ex_Hp → Prop} : ex_W 161 412 [l0, l1, l2, l3] S h X ↔ ex_W 161 413 [l0, l1, l2, l3] (.int (nI 2) :: S) h X := w_st rfl
set_option maxRecDepth 100000 in
theorem s161_413 {l0 l1 l2 l3 : Value} {S : List Value} {h : ex_Hp} {X : Option Value → ex_Hp → Prop} {x z : Int32} : ex_W 161 413 [l0, l1, l2, l3] (.int z :: .int x :: S) h X ↔ ex_W 161 414 [l0, l1, l2, l3] (.int (x + z) :: S) h X := w_st rfl
set_option maxRecDepth 100000 in
theorem s161_414 {l0 l1 l2 l3 : Value} {S : List Value} {h : ex_Hp} {X : Option Value → ex_Hp → Prop} {o : Nat} {i : Int32} : ex_W 161 414 [l0, l1, l2, l3] (.int i :: .ref o :: S) h X ↔ ex_al (ex_g h o) i (fun z => ex_W 161 415 [l0, l1, l2, l3] (.int z :: S) h X) := w_iald rfl rfl
set_option maxRecDepth 100000 in
theorem s161_415 {l0 l1 l2 l3 : Value} {S : List Value} {h : ex_Hp} {X : Option Value → ex_Hp → Prop} {x0 : Nat} {x1 : Int32} {x2 : Int32} : ex_W 161 415 [l0, l1, l2, l3] (.int x2 :: .int x1 :: .ref x0 :: S) h X ↔ ex_cat S ≤ 8 ∧ ex_is (ex_g h x0) 7 ∧ ex_W 71 0 [.ref x0, .int x1, .int x2, oU] [] h (fun r h1 => ex_W 161 418 [l0, l1, l2, l3] (r.toList ++ S) h1 X) := w_cav (o := x0) (As := [.int x1, .int x2]) (rest := S) rfl rfl rfl rfl rfl rfl rfl rfl rfl
set_option maxRecDepth 100000 in
theorem s161_418 {l0 l1 l3 : Value} {S : List Value} {h : ex_Hp} {X : Option Value → ex_Hp → Prop} {o : Nat} : ex_W 161 418 [l0, l1, .ref o, l3] S h X ↔ ex_W 161 419 [l0, l1, .ref o, l3] (.ref o :: S) h X := w_st rfl
set_option maxRecDepth 100000 in
theorem s161_419 {l1 l2 l3 : Value} {S : List Value} {h : ex_Hp} {X : Option Value → ex_Hp → Prop} {o : Nat} : ex_W 161 419 [.ref o, l1, l2, l3] S h X ↔ ex_W 161 420 [.ref o, l1, l2, l3] (.ref o :: S) h X := w_st rfl
set_option maxRecDepth 100000 in
theorem s161_420 {l0 l1 l2 : Value} {S : List Value} {h : ex_Hp} {X : Option Value → ex_Hp → Prop} {x : Int32} : ex_W 161 420 [l0, l1, l2, .int x] S h X ↔ ex_W 161 421 [l0, l1, l2, .int x] (.int x :: S) h X := w_st rfl
set_option maxRecDepth 100000 in
theorem s161_421 {l0 l1 l2 l3 : Value} {S : List Value} {h : ex_Hp} {X : Option Value → ex_Hp → Prop} : ex_W 161 421 [l0, l1, l2, l3] S h X ↔ ex_W 161 422 [l0, l1, l2, l3] (.int (nI 1) :: S) h X := w_st rfl
set_option maxRecDepth 100000 in
theorem s161_422 {l0 l1 l2 l3 : Value} {S : List Value} {h : ex_Hp} {X : Option Value → ex_Hp → Prop} {x z : Int32} : ex_W 161 422 [l0, l1, l2, l3] (.int z :: .int x :: S) h X ↔ ex_W 161 423 [l0, l1, l2, l3] (.int (x + z) :: S) h X := w_st rfl
set_option maxRecDepth 100000 in
theorem s161_423 {l0 l1 l2 l3 : Value} {S : List Value} {h : ex_Hp} {X : Option Value → ex_Hp → Prop} {o : Nat} {i : Int32} : ex_W 161 423 [l0, l1, l2, l3] (.int i :: .ref o :: S) h X ↔ ex_al (ex_g h o) i (fun z => ex_W 161 424 [l0, l1, l2, l3] (.int z :: S) h X) := w_iald rfl rfl
set_option maxRecDepth 100000 in
theorem s161_424 {l1 l2 l3 : Value} {S : List Value} {h : ex_Hp} {X : Option Value → ex_Hp → Prop} {o : Nat} : ex_W 161 424 [.ref o, l1, l2, l3] S h X ↔ ex_W 161 425 [.ref o, l1, l2, l3] (.ref o :: S) h X := w_st rfl
set_option maxRecDepth 100000 in
theorem s161_425 {l0 l1 l2 : Value} {S : List Value} {h : ex_Hp} {X : Option Value → ex_Hp → Prop} {x : Int32} : ex_W 161 425 [l0, l1, l2, .int x] S h X ↔ ex_W 161 426 [l0, l1, l2, .int x] (.int x :: S) h X := w_st rfl
set_option maxRecDepth 100000 in
theorem s161_426 {l0 l1 l2 l3 : Value} {S : List Value} {h : ex_Hp} {X : Option Value → ex_Hp → Prop} : ex_W 161 426 [l0, l1, l2, l3] S h X ↔ ex_W 161 427 [l0, l1, l2, l3] (.int (nI 2) :: S) h X := w_st rfl
set_option maxRecDepth 100000 in
theorem s161_427 {l0 l1 l2 l3 : Value} {S : List Value} {h : ex_Hp} {X : Option Value → ex_Hp → Prop} {x z : Int32} : ex_W 161 427 [l0, l1, l2, l3] (.int z :: .int x :: S) h X ↔ ex_W 161 428 [l0, l1, l2, l3] (.int (x + z) :: S) h X := w_st rfl
set_option maxRecDepth 100000 in
theorem s161_428 {l0 l1 l2 l3 : Value} {S : List Value} {h : ex_Hp} {X : Option Value → ex_Hp → Prop} {o : Nat} {i : Int32} : ex_W 161 428 [l0, l1, l2, l3] (.int i :: .ref o :: S) h X ↔ ex_al (ex_g h o) i (fun z => ex_W 161 429 [l0, l1, l2, l3] (.int z :: S) h X) := w_iald rfl rfl
set_option maxRecDepth 100000 in
theorem s161_429 {l0 l1 l2 l3 : Value} {S : List Value} {h : ex_Hp} {X : Option Value → ex_Hp → Prop} {x0 : Nat} {x1 : Int32} {x2 : Int32} : ex_W 161 429 [l0, l1, l2, l3] (.int x2 :: .int x1 :: .ref x0 :: S) h X ↔ ex_cat S ≤ 8 ∧ ex_is (ex_g h x0) 8 ∧ ex_W 130 0 [.ref x0, .int x1, .int x2, oU] [] h (fun r h1 => ex_W 161 432 [l0, l1, l2, l3] (r.toList ++ S) h1 X) := w_cav (o := x0) (As := [.int x1, .int x2]) (rest := S) rfl rfl rfl rfl rfl rfl rfl rfl rfl
set_option maxRecDepth 100000 in
theorem s161_432 {l0 l1 l2 l3 : Value} {S : List Value} {h : ex_Hp} {X : Option Value → ex_Hp → Prop} {x z : Int32} : ex_W 161 432 [l0, l1, l2, l3] (.int z :: .int x :: S) h X ↔ if x = z then ex_W 161 866 [l0, l1, l2, l3] S h X else ex_W 161 435 [l0, l1, l2, l3] S h X := (w_st rfl).trans (w_cmp (p := x = z) (by exact decide_eq_true_iff))
set_option maxRecDepth 100000 in
theorem s161_435 {l0 l1 l2 l3 : Value} {S : List Value} {h : ex_Hp} {X : Option Value → ex_Hp → Prop} : ex_W 161 435 [l0, l1, l2, l3] S h X ↔ ex_W 161 436 [l0, l1, l2, l3] (.int (nI 0) :: S) h X := w_st rfl
set_option maxRecDepth 100000 in
theorem s161_436 {l0 l1 l2 l3 : Value} {h : ex_Hp} {X : Option Value → ex_Hp → Prop} {x : Int32} : ex_W 161 436 [l0, l1, l2, l3] [.int x] h X ↔ (x = nI 0 ∨ x = nI 1) ∧ X (some (.int x)) h := w_rez rfl
set_option maxRecDepth 100000 in
theorem s161_437 {l0 l2 l3 : Value} {S : List Value} {h : ex_Hp} {X : Option Value → ex_Hp → Prop} {o : Nat} : ex_W 161 437 [l0, .ref o, l2, l3] S h X ↔ ex_W 161 438 [l0, .ref o, l2, l3] (.ref o :: S) h X := w_st rfl
set_option maxRecDepth 100000 in
theorem s161_438 {l1 l2 l3 : Value} {S : List Value} {h : ex_Hp} {X : Option Value → ex_Hp → Prop} {o : Nat} : ex_W 161 438 [.ref o, l1, l2, l3] S h X ↔ ex_W 161 439 [.ref o, l1, l2, l3] (.ref o :: S) h X := w_st rfl
set_option maxRecDepth 100000 in
theorem s161_439 {l0 l1 l2 : Value} {S : List Value} {h : ex_Hp} {X : Option Value → ex_Hp → Prop} {x : Int32} : ex_W 161 439 [l0, l1, l2, .int x] S h X ↔ ex_W 161 440 [l0, l1, l2, .int x] (.int x :: S) h X := w_st rfl
set_option maxRecDepth 100000 in
theorem s161_440 {l0 l1 l2 l3 : Value} {S : List Value} {h : ex_Hp} {X : Option Value → ex_Hp → Prop} : ex_W 161 440 [l0, l1, l2, l3] S h X ↔ ex_W 161 441 [l0, l1, l2, l3] (.int (nI 1) :: S) h X := w_st rfl
set_option maxRecDepth 100000 in
theorem s161_441 {l0 l1 l2 l3 : Value} {S : List Value} {h : ex_Hp} {X : Option Value → ex_Hp → Prop} {x z : Int32} : ex_W 161 441 [l0, l1, l2, l3] (.int z :: .int x :: S) h X ↔ ex_W 161 442 [l0, l1, l2, l3] (.int (x + z) :: S) h X := w_st rfl
set_option maxRecDepth 100000 in
theorem s161_442 {l0 l1 l2 l3 : Value} {S : List Value} {h : ex_Hp} {X : Option Value → ex_Hp → Prop} {o : Nat} {i : Int32} : ex_W 161 442 [l0, l1, l2, l3] (.int i :: .ref o :: S) h X ↔ ex_al (ex_g h o) i (fun z => ex_W 161 443 [l0, l1, l2, l3] (.int z :: S) h X) := w_iald rfl rfl
set_option maxRecDepth 100000 in
theorem s161_443 {l1 l2 l3 : Value} {S : List Value} {h : ex_Hp} {X : Option Value → ex_Hp → Prop} {o : Nat} : ex_W 161 443 [.ref o, l1, l2, l3] S h X ↔ ex_W 161 444 [.ref o, l1, l2, l3] (.ref o :: S) h X := w_st rfl
set_option maxRecDepth 100000 in
theorem s161_444 {l0 l1 l2 : Value} {S : List Value} {h : ex_Hp} {X : Option Value → ex_Hp → Prop} {x : Int32} : ex_W 161 444 [l0, l1, l2, .int x] S h X ↔ ex_W 161 445 [l0, l1, l2, .int x] (.int x :: S) h X := w_st rfl
set_option maxRecDepth 100000 in
theorem s161_445 {l0 l1 l2 l3 : Value} {S : List Value} {h : ex_Hp} {X : Option Value → ex_Hp → Prop} : ex_W 161 445 [l0, l1, l2, l3] S h X ↔ ex_W 161 446 [l0, l1, l2, l3] (.int (nI 2) :: S) h X := w_st rfl
set_option maxRecDepth 100000 in
theorem s161_446 {l0 l1 l2 l3 : Value} {S : List Value} {h : ex_Hp} {X : Option Value → ex_Hp → Prop} {x z : Int32} : ex_W 161 446 [l0, l1, l2, l3] (.int z :: .int x :: S) h X ↔ ex_W 161 447 [l0, l1, l2, l3] (.int (x + z) :: S) h X := w_st rfl
set_option maxRecDepth 100000 in
theorem s161_447 {l0 l1 l2 l3 : Value} {S : List Value} {h : ex_Hp} {X : Option Value → ex_Hp → Prop} {o : Nat} {i : Int32} : ex_W 161 447 [l0, l1, l2, l3] (.int i :: .ref o :: S) h X ↔ ex_al (ex_g h o) i (fun z => ex_W 161 448 [l0, l1, l2, l3] (.int z :: S) h X) := w_iald rfl rfl
set_option maxRecDepth 100000 in
theorem s161_448 {l1 l2 l3 : Value} {S : List Value} {h : ex_Hp} {X : Option Value → ex_Hp → Prop} {o : Nat} : ex_W 161 448 [.ref o, l1, l2, l3] S h X ↔ ex_W 161 449 [.ref o, l1, l2, l3] (.ref o :: S) h X := w_st rfl
set_option maxRecDepth 100000 in
theorem s161_449 {l0 l1 l2 : Value} {S : List Value} {h : ex_Hp} {X : Option Value → ex_Hp → Prop} {x : Int32} : ex_W 161 449 [l0, l1, l2, .int x] S h X ↔ ex_W 161 450 [l0, l1, l2, .int x] (.int x :: S) h X := w_st rfl
set_option maxRecDepth 100000 in
theorem s161_450 {l0 l1 l2 l3 : Value} {S : List Value} {h : ex_Hp} {X : Option Value → ex_Hp → Prop} : ex_W 161 450 [l0, l1, l2, l3] S h X ↔ ex_W 161 451 [l0, l1, l2, l3] (.int (nI 3) :: S) h X := w_st rfl
set_option maxRecDepth 100000 in
theorem s161_451 {l0 l1 l2 l3 : Value} {S : List Value} {h : ex_Hp} {X : Option Value → ex_Hp → Prop} {x z : Int32} : ex_W 161 451 [l0, l1, l2, l3] (.int z :: .int x :: S) h X ↔ ex_W 161 452 [l0, l1, l2, l3] (.int (x + z) :: S) h X := w_st rfl
set_option maxRecDepth 100000 in
theorem s161_452 {l0 l1 l2 l3 : Value} {S : List Value} {h : ex_Hp} {X : Option Value → ex_Hp → Prop} {o : Nat} {i : Int32} : ex_W 161 452 [l0, l1, l2, l3] (.int i :: .ref o :: S) h X ↔ ex_al (ex_g h o) i (fun z => ex_W 161 453 [l0, l1, l2, l3] (.int z :: S) h X) := w_iald rfl rfl
set_option maxRecDepth 100000 in
theorem s161_453 {l0 l1 l2 l3 : Value} {S : List Value} {h : ex_Hp} {X : Option Value → ex_Hp → Prop} {x0 : Nat} {x1 : Int32} {x2 : Int32} {x3 : Int32} : ex_W 161 453 [l0, l1, l2, l3] (.int x3 :: .int x2 :: .int x1 :: .ref x0 :: S) h X ↔ ex_cat S ≤ 8 ∧ ex_is (ex_g h x0) 7 ∧ ex_W 72 0 [.ref x0, .int x1, .int x2, .int x3, oU] [] h (fun r h1 => ex_W 161 456 [l0, l1, l2, l3] (r.toList ++ S) h1 X) := w_cav (o := x0) (As := [.int x1, .int x2, .int x3]) (rest := S) rfl rfl rfl rfl rfl rfl rfl rfl rfl
set_option maxRecDepth 100000 in
theorem s161_456 {l0 l1 l3 : Value} {S : List Value} {h : ex_Hp} {X : Option Value → ex_Hp → Prop} {o : Nat} : ex_W 161 456 [l0, l1, .ref o, l3] S h X ↔ ex_W 161 457 [l0, l1, .ref o, l3] (.ref o :: S) h X := w_st rfl
set_option maxRecDepth 100000 in
theorem s161_457 {l1 l2 l3 : Value} {S : List Value} {h : ex_Hp} {X : Option Value → ex_Hp → Prop} {o : Nat} : ex_W 161 457 [.ref o, l1, l2, l3] S h X ↔ ex_W 161 458 [.ref o, l1, l2, l3] (.ref o :: S) h X := w_st rfl
set_option maxRecDepth 100000 in
theorem s161_458 {l0 l1 l2 : Value} {S : List Value} {h : ex_Hp} {X : Option Value → ex_Hp → Prop} {x : Int32} : ex_W 161 458 [l0, l1, l2, .int x] S h X ↔ ex_W 161 459 [l0, l1, l2, .int x] (.int x :: S) h X := w_st rfl
set_option maxRecDepth 100000 in
theorem s161_459 {l0 l1 l2 l3 : Value} {S : List Value} {h : ex_Hp} {X : Option Value → ex_Hp → Prop} : ex_W 161 459 [l0, l1, l2, l3] S h X ↔ ex_W 161 460 [l0, l1, l2, l3] (.int (nI 1) :: S) h X := w_st rfl
set_option maxRecDepth 100000 in
theorem s161_460 {l0 l1 l2 l3 : Value} {S : List Value} {h : ex_Hp} {X : Option Value → ex_Hp → Prop} {x z : Int32} : ex_W 161 460 [l0, l1, l2, l3] (.int z :: .int x :: S) h X ↔ ex_W 161 461 [l0, l1, l2, l3] (.int (x + z) :: S) h X := w_st rfl
set_option maxRecDepth 100000 in
theorem s161_461 {l0 l1 l2 l3 : Value} {S : List Value} {h : ex_Hp} {X : Option Value → ex_Hp → Prop} {o : Nat} {i : Int32} : ex_W 161 461 [l0, l1, l2, l3] (.int i :: .ref o :: S) h X ↔ ex_al (ex_g h o) i (fun z => ex_W 161 462 [l0, l1, l2, l3] (.int z :: S) h X) := w_iald rfl rfl
set_option maxRecDepth 100000 in
theorem s161_462 {l1 l2 l3 : Value} {S : List Value} {h : ex_Hp} {X : Option Value → ex_Hp → Prop} {o : Nat} : ex_W 161 462 [.ref o, l1, l2, l3] S h X ↔ ex_W 161 463 [.ref o, l1, l2, l3] (.ref o :: S) h X := w_st rfl
set_option maxRecDepth 100000 in
theorem s161_463 {l0 l1 l2 : Value} {S : List Value} {h : ex_Hp} {X : Option Value → ex_Hp → Prop} {x : Int32} : ex_W 161 463 [l0, l1, l2, .int x] S h X ↔ ex_W 161 464 [l0, l1, l2, .int x] (.int x :: S) h X := w_st rfl
set_option maxRecDepth 100000 in
theorem s161_464 {l0 l1 l2 l3 : Value} {S : List Value} {h : ex_Hp} {X : Option Value → ex_Hp → Prop} : ex_W 161 464 [l0, l1, l2, l3] S h X ↔ ex_W 161 465 [l0, l1, l2, l3] (.int (nI 2) :: S) h X := w_st rfl
set_option maxRecDepth 100000 in
theorem s161_465 {l0 l1 l2 l3 : Value} {S : List Value} {h : ex_Hp} {X : Option Value → ex_Hp → Prop} {x z : Int32} : ex_W 161 465 [l0, l1, l2, l3] (.int z :: .int x :: S) h X ↔ ex_W 161 466 [l0, l1, l2, l3] (.int (x + z) :: S) h X := w_st rfl
set_option maxRecDepth 100000 in
theorem s161_466 {l0 l1 l2 l3 : Value} {S : List Value} {h : ex_Hp} {X : Option Value → ex_Hp → Prop} {o : Nat} {i : Int32} : ex_W 161 466 [l0, l1, l2, l3] (.int i :: .ref o :: S) h X ↔ ex_al (ex_g h o) i (fun z => ex_W 161 467 [l0, l1, l2, l3] (.int z :: S) h X) := w_iald rfl rfl
set_option maxRecDepth 100000 in
theorem s161_467 {l1 l2 l3 : Value} {S : List Value} {h : ex_Hp} {X : Option Value → ex_Hp → Prop} {o : Nat} : ex_W 161 467 [.ref o, l1, l2, l3] S h X ↔ ex_W 161 468 [.ref o, l1, l2, l3] (.ref o :: S) h X := w_st rfl
set_option maxRecDepth 100000 in
theorem s161_468 {l0 l1 l2 : Value} {S : List Value} {h : ex_Hp} {X : Option Value → ex_Hp → Prop} {x : Int32} : ex_W 161 468 [l0, l1, l2, .int x] S h X ↔ ex_W 161 469 [l0, l1, l2, .int x] (.int x :: S) h X := w_st rfl
set_option maxRecDepth 100000 in
theorem s161_469 {l0 l1 l2 l3 : Value} {S : List Value} {h : ex_Hp} {X : Option Value → ex_Hp → Prop} : ex_W 161 469 [l0, l1, l2, l3] S h X ↔ ex_W 161 470 [l0, l1, l2, l3] (.int (nI 3) :: S) h X := w_st rfl
set_option maxRecDepth 100000 in
theorem s161_470 {l0 l1 l2 l3 : Value} {S : List Value} {h : ex_Hp} {X : Option Value → ex_Hp → Prop} {x z : Int32} : ex_W 161 470 [l0, l1, l2, l3] (.int z :: .int x :: S) h X ↔ ex_W 161 471 [l0, l1, l2, l3] (.int (x + z) :: S) h X := w_st rfl
set_option maxRecDepth 100000 in
theorem s161_471 {l0 l1 l2 l3 : Value} {S : List Value} {h : ex_Hp} {X : Option Value → ex_Hp → Prop} {o : Nat} {i : Int32} : ex_W 161 471 [l0, l1, l2, l3] (.int i :: .ref o :: S) h X ↔ ex_al (ex_g h o) i (fun z => ex_W 161 472 [l0, l1, l2, l3] (.int z :: S) h X) := w_iald rfl rfl
set_option maxRecDepth 100000 in
theorem s161_472 {l0 l1 l2 l3 : Value} {S : List Value} {h : ex_Hp} {X : Option Value → ex_Hp → Prop} {x0 : Nat} {x1 : Int32} {x2 : Int32} {x3 : Int32} : ex_W 161 472 [l0, l1, l2, l3] (.int x3 :: .int x2 :: .int x1 :: .ref x0 :: S) h X ↔ ex_cat S ≤ 8 ∧ ex_is (ex_g h x0) 8 ∧ ex_W 132 0 [.ref x0, .int x1, .int x2, .int x3, oU] [] h (fun r h1 => ex_W 161 475 [l0, l1, l2, l3] (r.toList ++ S) h1 X) := w_cav (o := x0) (As := [.int x1, .int x2, .int x3]) (rest := S) rfl rfl rfl rfl rfl rfl rfl rfl rfl
set_option maxRecDepth 100000 in
theorem s161_475 {l0 l1 l2 l3 : Value} {S : List Value} {h : ex_Hp} {X : Option Value → ex_Hp → Prop} {x z : Int32} : ex_W 161 475 [l0, l1, l2, l3] (.int z :: .int x :: S) h X ↔ if x = z then ex_W 161 866 [l0, l1, l2, l3] S h X else ex_W 161 478 [l0, l1, l2, l3] S h X := (w_st rfl).trans (w_cmp (p := x = z) (by exact decide_eq_true_iff))
set_option maxRecDepth 100000 in
theorem s161_478 {l0 l1 l2 l3 : Value} {S : List Value} {h : ex_Hp} {X : Option Value → ex_Hp → Prop} : ex_W 161 478 [l0, l1, l2, l3] S h X ↔ ex_W 161 479 [l0, l1, l2, l3] (.int (nI 0) :: S) h X := w_st rfl
set_option maxRecDepth 100000 in
theorem s161_479 {l0 l1 l2 l3 : Value} {h : ex_Hp} {X : Option Value → ex_Hp → Prop} {x : Int32} : ex_W 161 479 [l0, l1, l2, l3] [.int x] h X ↔ (x = nI 0 ∨ x = nI 1) ∧ X (some (.int x)) h := w_rez rfl
set_option maxRecDepth 100000 in
theorem s161_480 {l0 l2 l3 : Value} {S : List Value} {h : ex_Hp} {X : Option Value → ex_Hp → Prop} {o : Nat} : ex_W 161 480 [l0, .ref o, l2, l3] S h X ↔ ex_W 161 481 [l0, .ref o, l2, l3] (.ref o :: S) h X := w_st rfl
set_option maxRecDepth 100000 in
theorem s161_481 {l1 l2 l3 : Value} {S : List Value} {h : ex_Hp} {X : Option Value → ex_Hp → Prop} {o : Nat} : ex_W 161 481 [.ref o, l1, l2, l3] S h X ↔ ex_W 161 482 [.ref o, l1, l2, l3] (.ref o :: S) h X := w_st rfl
set_option maxRecDepth 100000 in
theorem s161_482 {l0 l1 l2 : Value} {S : List Value} {h : ex_Hp} {X : Option Value → ex_Hp → Prop} {x : Int32} : ex_W 161 482 [l0, l1, l2, .int x] S h X ↔ ex_W 161 483 [l0, l1, l2, .int x] (.int x :: S) h X := w_st rfl
set_option maxRecDepth 100000 in
theorem s161_483 {l0 l1 l2 l3 : Value} {S : List Value} {h : ex_Hp} {X : Option Value → ex_Hp → Prop} : ex_W 161 483 [l0, l1, l2, l3] S h X ↔ ex_W 161 484 [l0, l1, l2, l3] (.int (nI 1) :: S) h X := w_st rfl
set_option maxRecDepth 100000 in
theorem s161_484 {l0 l1 l2 l3 : Value} {S : List Value} {h : ex_Hp} {X : Option Value → ex_Hp → Prop} {x z : Int32} : ex_W 161 484 [l0, l1, l2, l3] (.int z :: .int x :: S) h X ↔ ex_W 161 485 [l0, l1, l2, l3] (.int (x + z) :: S) h X := w_st rfl
set_option maxRecDepth 100000 in
theorem s161_485 {l0 l1 l2 l3 : Value} {S : List Value} {h : ex_Hp} {X : Option Value → ex_Hp → Prop} {o : Nat} {i : Int32} : ex_W 161 485 [l0, l1, l2, l3] (.int i :: .ref o :: S) h X ↔ ex_al (ex_g h o) i (fun z => ex_W 161 486 [l0, l1, l2, l3] (.int z :: S) h X) := w_iald rfl rfl
set_option maxRecDepth 100000 in
theorem s161_486 {l1 l2 l3 : Value} {S : List Value} {h : ex_Hp} {X : Option Value → ex_Hp → Prop} {o : Nat} : ex_W 161 486 [.ref o, l1, l2, l3] S h X ↔ ex_W 161 487 [.ref o, l1, l2, l3] (.ref o :: S) h X := w_st rfl
set_option maxRecDepth 100000 in
theorem s161_487 {l0 l1 l2 : Value} {S : List Value} {h : ex_Hp} {X : Option Value → ex_Hp → Prop} {x : Int32} : ex_W 161 487 [l0, l1, l2, .int x] S h X ↔ ex_W 161 488 [l0, l1, l2, .int x] (.int x :: S) h X := w_st rfl
set_option maxRecDepth 100000 in
theorem s161_488 {l0 l1 l2 l3 : Value} {S : List Value} {h : ex_Hp} {X : Option Value → ex_Hp → Prop} : ex_W 161 488 [l0, l1, l2, l3] S h X ↔ ex_W 161 489 [l0, l1, l2, l3] (.int (nI 2) :: S) h X := w_st rfl
set_option maxRecDepth 100000 in
theorem s161_489 {l0 l1 l2 l3 : Value} {S : List Value} {h : ex_Hp} {X : Option Value → ex_Hp → Prop} {x z : Int32} : ex_W 161 489 [l0, l1, l2, l3] (.int z :: .int x :: S) h X ↔ ex_W 161 490 [l0, l1, l2, l3] (.int (x + z) :: S) h X := w_st rfl
set_option maxRecDepth 100000 in
theorem s161_490 {l0 l1 l2 l3 : Value} {S : List Value} {h : ex_Hp} {X : Option Value → ex_Hp → Prop} {o : Nat} {i : Int32} : ex_W 161 490 [l0, l1, l2, l3] (.int i :: .ref o :: S) h X ↔ ex_al (ex_g h o) i (fun z => ex_W 161 491 [l0, l1, l2, l3] (.int z :: S) h X) := w_iald rfl rfl
set_option maxRecDepth 100000 in
theorem s161_491 {l0 l1 l2 l3 : Value} {S : List Value} {h : ex_Hp} {X : Option Value → ex_Hp → Prop} {x0 : Nat} {x1 : Int32} {x2 : Int32} : ex_W 161 491 [l0, l1, l2, l3] (.int x2 :: .int x1 :: .ref x0 :: S) h X ↔ ex_cat S ≤ 8 ∧ ex_is (ex_g h x0) 7 ∧ ex_W 73 0 [.ref x0, .int x1, .int x2] [] h (fun r h1 => ex_W 161 494 [l0, l1, l2, l3] (r.toList ++ S) h1 X) := w_cav (o := x0) (As := [.int x1, .int x2]) (rest := S) rfl rfl rfl rfl rfl rfl rfl rfl rfl
set_option maxRecDepth 100000 in
theorem s161_494 {l0 l1 l3 : Value} {S : List Value} {h : ex_Hp} {X : Option Value → ex_Hp → Prop} {o : Nat} : ex_W 161 494 [l0, l1, .ref o, l3] S h X ↔ ex_W 161 495 [l0, l1, .ref o, l3] (.ref o :: S) h X := w_st rfl
set_option maxRecDepth 100000 in
theorem s161_495 {l1 l2 l3 : Value} {S : List Value} {h : ex_Hp} {X : Option Value → ex_Hp → Prop} {o : Nat} : ex_W 161 495 [.ref o, l1, l2, l3] S h X ↔ ex_W 161 496 [.ref o, l1, l2, l3] (.ref o :: S) h X := w_st rfl
set_option maxRecDepth 100000 in
theorem s161_496 {l0 l1 l2 : Value} {S : List Value} {h : ex_Hp} {X : Option Value → ex_Hp → Prop} {x : Int32} : ex_W 161 496 [l0, l1, l2, .int x] S h X ↔ ex_W 161 497 [l0, l1, l2, .int x] (.int x :: S) h X := w_st rfl
set_option maxRecDepth 100000 in
theorem s161_497 {l0 l1 l2 l3 : Value} {S : List Value} {h : ex_Hp} {X : Option Value → ex_Hp → Prop} : ex_W 161 497 [l0, l1, l2, l3] S h X ↔ ex_W 161 498 [l0, l1, l2, l3] (.int (nI 1) :: S) h X := w_st rfl
set_option maxRecDepth 100000 in
theorem s161_498 {l0 l1 l2 l3 : Value} {S : List Value} {h : ex_Hp} {X : Option Value → ex_Hp → Prop} {x z : Int32} : ex_W 161 498 [l0, l1, l2, l3] (.int z :: .int x :: S) h X ↔ ex_W 161 499 [l0, l1, l2, l3] (.int (x + z) :: S) h X := w_st rfl
set_option maxRecDepth 100000 in
theorem s161_499 {l0 l1 l2 l3 : Value} {S : List Value} {h : ex_Hp} {X : Option Value → ex_Hp → Prop} {o : Nat} {i : Int32} : ex_W 161 499 [l0, l1, l2, l3] (.int i :: .ref o :: S) h X ↔ ex_al (ex_g h o) i (fun z => ex_W 161 500 [l0, l1, l2, l3] (.int z :: S) h X) := w_iald rfl rfl
set_option maxRecDepth 100000 in
theorem s161_500 {l1 l2 l3 : Value} {S : List Value} {h : ex_Hp} {X : Option Value → ex_Hp → Prop} {o : Nat} : ex_W 161 500 [.ref o, l1, l2, l3] S h X ↔ ex_W 161 501 [.ref o, l1, l2, l3] (.ref o :: S) h X := w_st rfl
set_option maxRecDepth 100000 in
theorem s161_501 {l0 l1 l2 : Value} {S : List Value} {h : ex_Hp} {X : Option Value → ex_Hp → Prop} {x : Int32} : ex_W 161 501 [l0, l1, l2, .int x] S h X ↔ ex_W 161 502 [l0, l1, l2, .int x] (.int x :: S) h X := w_st rfl
set_option maxRecDepth 100000 in
theorem s161_502 {l0 l1 l2 l3 : Value} {S : List Value} {h : ex_Hp} {X : Option Value → ex_Hp → Prop} : ex_W 161 502 [l0, l1, l2, l3] S h X ↔ ex_W 161 503 [l0, l1, l2, l3] (.int (nI 2) :: S) h X := w_st rfl
set_option maxRecDepth 100000 in
theorem s161_503 {l0 l1 l2 l3 : Value} {S : List Value} {h : ex_Hp} {X : Option Value → ex_Hp → Prop} {x z : Int32} : ex_W 161 503 [l0, l1, l2, l3] (.int z :: .int x :: S) h X ↔ ex_W 161 504 [l0, l1, l2, l3] (.int (x + z) :: S) h X := w_st rfl
set_option maxRecDepth 100000 in
theorem s161_504 {l0 l1 l2 l3 : Value} {S : List Value} {h : ex_Hp} {X : Option Value → ex_Hp → Prop} {o : Nat} {i : Int32} : ex_W 161 504 [l0, l1, l2, l3] (.int i :: .ref o :: S) h X ↔ ex_al (ex_g h o) i (fun z => ex_W 161 505 [l0, l1, l2, l3] (.int z :: S) h X) := w_iald rfl rfl
set_option maxRecDepth 100000 in
theorem s161_505 {l0 l1 l2 l3 : Value} {S : List Value} {h : ex_Hp} {X : Option Value → ex_Hp → Prop} {x0 : Nat} {x1 : Int32} {x2 : Int32} : ex_W 161 505 [l0, l1, l2, l3] (.int x2 :: .int x1 :: .ref x0 :: S) h X ↔ ex_cat S ≤ 8 ∧ ex_is (ex_g h x0) 8 ∧ ex_W 133 0 [.ref x0, .int x1, .int x2] [] h (fun r h1 => ex_W 161 508 [l0, l1, l2, l3] (r.toList ++ S) h1 X) := w_cav (o := x0) (As := [.int x1, .int x2]) (rest := S) rfl rfl rfl rfl rfl rfl rfl rfl rfl
set_option maxRecDepth 100000 in
theorem s161_508 {l0 l1 l2 l3 : Value} {S : List Value} {h : ex_Hp} {X : Option Value → ex_Hp → Prop} {x z : Int32} : ex_W 161 508 [l0, l1, l2, l3] (.int z :: .int x :: S) h X ↔ if x = z then ex_W 161 866 [l0, l1, l2, l3] S h X else ex_W 161 511 [l0, l1, l2, l3] S h X := (w_st rfl).trans (w_cmp (p := x = z) (by exact decide_eq_true_iff))
set_option maxRecDepth 100000 in
theorem s161_511 {l0 l1 l2 l3 : Value} {S : List Value} {h : ex_Hp} {X : Option Value → ex_Hp → Prop} : ex_W 161 511 [l0, l1, l2, l3] S h X ↔ ex_W 161 512 [l0, l1, l2, l3] (.int (nI 0) :: S) h X := w_st rfl
set_option maxRecDepth 100000 in
theorem s161_512 {l0 l1 l2 l3 : Value} {h : ex_Hp} {X : Option Value → ex_Hp → Prop} {x : Int32} : ex_W 161 512 [l0, l1, l2, l3] [.int x] h X ↔ (x = nI 0 ∨ x = nI 1) ∧ X (some (.int x)) h := w_rez rfl
set_option maxRecDepth 100000 in
theorem s161_513 {l0 l2 l3 : Value} {S : List Value} {h : ex_Hp} {X : Option Value → ex_Hp → Prop} {o : Nat} : ex_W 161 513 [l0, .ref o, l2, l3] S h X ↔ ex_W 161 514 [l0, .ref o, l2, l3] (.ref o :: S) h X := w_st rfl
set_option maxRecDepth 100000 in
theorem s161_514 {l1 l2 l3 : Value} {S : List Value} {h : ex_Hp} {X : Option Value → ex_Hp → Prop} {o : Nat} : ex_W 161 514 [.ref o, l1, l2, l3] S h X ↔ ex_W 161 515 [.ref o, l1, l2, l3] (.ref o :: S) h X := w_st rfl
set_option maxRecDepth 100000 in
theorem s161_515 {l0 l1 l2 : Value} {S : List Value} {h : ex_Hp} {X : Option Value → ex_Hp → Prop} {x : Int32} : ex_W 161 515 [l0, l1, l2, .int x] S h X ↔ ex_W 161 516 [l0, l1, l2, .int x] (.int x :: S) h X := w_st rfl
set_option maxRecDepth 100000 in
theorem s161_516 {l0 l1 l2 l3 : Value} {S : List Value} {h : ex_Hp} {X : Option Value → ex_Hp → Prop} : ex_W 161 516 [l0, l1, l2, l3] S h X ↔ ex_W 161 517 [l0, l1, l2, l3] (.int (nI 1) :: S) h X := w_st rfl
set_option maxRecDepth 100000 in
theorem s161_517 {l0 l1 l2 l3 : Value} {S : List Value} {h : ex_Hp} {X : Option Value → ex_Hp → Prop} {x z : Int32} : ex_W 161 517 [l0, l1, l2, l3] (.int z :: .int x :: S) h X ↔ ex_W 161 518 [l0, l1, l2, l3] (.int (x + z) :: S) h X := w_st rfl
set_option maxRecDepth 100000 in
theorem s161_518 {l0 l1 l2 l3 : Value} {S : List Value} {h : ex_Hp} {X : Option Value → ex_Hp → Prop} {o : Nat} {i : Int32} : ex_W 161 518 [l0, l1, l2, l3] (.int i :: .ref o :: S) h X ↔ ex_al (ex_g h o) i (fun z => ex_W 161 519 [l0, l1, l2, l3] (.int z :: S) h X) := w_iald rfl rfl
set_option maxRecDepth 100000 in
theorem s161_519 {l1 l2 l3 : Value} {S : List Value} {h : ex_Hp} {X : Option Value → ex_Hp → Prop} {o : Nat} : ex_W 161 519 [.ref o, l1, l2, l3] S h X ↔ ex_W 161 520 [.ref o, l1, l2, l3] (.ref o :: S) h X := w_st rfl
set_option maxRecDepth 100000 in
theorem s161_520 {l0 l1 l2 : Value} {S : List Value} {h : ex_Hp} {X : Option Value → ex_Hp → Prop} {x : Int32} : ex_W 161 520 [l0, l1, l2, .int x] S h X ↔ ex_W 161 521 [l0, l1, l2, .int x] (.int x :: S) h X := w_st rfl
set_option maxRecDepth 100000 in
theorem s161_521 {l0 l1 l2 l3 : Value} {S : List Value} {h : ex_Hp} {X : Option Value → ex_Hp → Prop} : ex_W 161 521 [l0, l1, l2, l3] S h X ↔ ex_W 161 522 [l0, l1, l2, l3] (.int (nI 2) :: S) h X := w_st rfl
set_option maxRecDepth 100000 in
theorem s161_522 {l0 l1 l2 l3 : Value} {S : List Value} {h : ex_Hp} {X : Option Value → ex_Hp → Prop} {x z : Int32} : ex_W 161 522 [l0, l1, l2, l3] (.int z :: .int x :: S) h X ↔ ex_W 161 523 [l0, l1, l2, l3] (.int (x + z) :: S) h X := w_st rfl
set_option maxRecDepth 100000 in
theorem s161_523 {l0 l1 l2 l3 : Value} {S : List Value} {h : ex_Hp} {X : Option Value → ex_Hp → Prop} {o : Nat} {i : Int32} : ex_W 161 523 [l0, l1, l2, l3] (.int i :: .ref o :: S) h X ↔ ex_al (ex_g h o) i (fun z => ex_W 161 524 [l0, l1, l2, l3] (.int z :: S) h X) := w_iald rfl rfl
set_option maxRecDepth 100000 in
theorem s161_524 {l1 l2 l3 : Value} {S : List Value} {h : ex_Hp} {X : Option Value → ex_Hp → Prop} {o : Nat} : ex_W 161 524 [.ref o, l1, l2, l3] S h X ↔ ex_W 161 525 [.ref o, l1, l2, l3] (.ref o :: S) h X := w_st rfl
set_option maxRecDepth 100000 in
theorem s161_525 {l0 l1 l2 : Value} {S : List Value} {h : ex_Hp} {X : Option Value → ex_Hp → Prop} {x : Int32} : ex_W 161 525 [l0, l1, l2, .int x] S h X ↔ ex_W 161 526 [l0, l1, l2, .int x] (.int x :: S) h X := w_st rfl
set_option maxRecDepth 100000 in
theorem s161_526 {l0 l1 l2 l3 : Value} {S : List Value} {h : ex_Hp} {X : Option Value → ex_Hp → Prop} : ex_W 161 526 [l0, l1, l2, l3] S h X ↔ ex_W 161 527 [l0, l1, l2, l3] (.int (nI 3) :: S) h X := w_st rfl
set_option maxRecDepth 100000 in
theorem s161_527 {l0 l1 l2 l3 : Value} {S : List Value} {h : ex_Hp} {X : Option Value → ex_Hp → Prop} {x z : Int32} : ex_W 161 527 [l0, l1, l2, l3] (.int z :: .int x :: S) h X ↔ ex_W 161 528 [l0, l1, l2, l3] (.int (x + z) :: S) h X := w_st rfl
set_option maxRecDepth 100000 in
theorem s161_528 {l0 l1 l2 l3 : Value} {S : List Value} {h : ex_Hp} {X : Option Value → ex_Hp → Prop} {o : Nat} {i : Int32} : ex_W 161 528 [l0, l1, l2, l3] (.int i :: .ref o :: S) h X ↔ ex_al (ex_g h o) i (fun z => ex_W 161 529 [l0, l1, l2, l3] (.int z :: S) h X) := w_iald rfl rfl
set_option maxRecDepth 100000 in
theorem s161_529 {l1 l2 l3 : Value} {S : List Value} {h : ex_Hp} {X : Option Value → ex_Hp → Prop} {o : Nat} : ex_W 161 529 [.ref o, l1, l2, l3] S h X ↔ ex_W 161 530 [.ref o, l1, l2, l3] (.ref o :: S) h X := w_st rfl
set_option maxRecDepth 100000 in
theorem s161_530 {l0 l1 l2 : Value} {S : List Value} {h : ex_Hp} {X : Option Value → ex_Hp → Prop} {x : Int32} : ex_W 161 530 [l0, l1, l2, .int x] S h X ↔ ex_W 161 531 [l0, l1, l2, .int x] (.int x :: S) h X := w_st rfl
set_option maxRecDepth 100000 in
theorem s161_531 {l0 l1 l2 l3 : Value} {S : List Value} {h : ex_Hp} {X : Option Value → ex_Hp → Prop} : ex_W 161 531 [l0, l1, l2, l3] S h X ↔ ex_W 161 532 [l0, l1, l2, l3] (.int (nI 4) :: S) h X := w_st rfl
set_option maxRecDepth 100000 in
theorem s161_532 {l0 l1 l2 l3 : Value} {S : List Value} {h : ex_Hp} {X : Option Value → ex_Hp → Prop} {x z : Int32} : ex_W 161 532 [l0, l1, l2, l3] (.int z :: .int x :: S) h X ↔ ex_W 161 533 [l0, l1, l2, l3] (.int (x + z) :: S) h X := w_st rfl
set_option maxRecDepth 100000 in
theorem s161_533 {l0 l1 l2 l3 : Value} {S : List Value} {h : ex_Hp} {X : Option Value → ex_Hp → Prop} {o : Nat} {i : Int32} : ex_W 161 533 [l0, l1, l2, l3] (.int i :: .ref o :: S) h X ↔ ex_al (ex_g h o) i (fun z => ex_W 161 534 [l0, l1, l2, l3] (.int z :: S) h X) := w_iald rfl rfl
set_option maxRecDepth 100000 in
theorem s161_534 {l0 l1 l2 l3 : Value} {S : List Value} {h : ex_Hp} {X : Option Value → ex_Hp → Prop} {x0 : Nat} {x1 : Int32} {x2 : Int32} {x3 : Int32} {x4 : Int32} : ex_W 161 534 [l0, l1, l2, l3] (.int x4 :: .int x3 :: .int x2 :: .int x1 :: .ref x0 :: S) h X ↔ ex_cat S ≤ 8 ∧ ex_is (ex_g h x0) 7 ∧ ex_W 74 0 [.ref x0, .int x1, .int x2, .int x3, .int x4] [] h (fun r h1 => ex_W 161 537 [l0, l1, l2, l3] (r.toList ++ S) h1 X) := w_cav (o := x0) (As := [.int x1, .int x2, .int x3, .int x4]) (rest := S) rfl rfl rfl rfl rfl rfl rfl rfl rfl
set_option maxRecDepth 100000 in
theorem s161_537 {l0 l1 l3 : Value} {S : List Value} {h : ex_Hp} {X : Option Value → ex_Hp → Prop} {o : Nat} : ex_W 161 537 [l0, l1, .ref o, l3] S h X ↔ ex_W 161 538 [l0, l1, .ref o, l3] (.ref o :: S) h X := w_st rfl
set_option maxRecDepth 100000 in
theorem s161_538 {l1 l2 l3 : Value} {S : List Value} {h : ex_Hp} {X : Option Value → ex_Hp → Prop} {o : Nat} : ex_W 161 538 [.ref o, l1, l2, l3] S h X ↔ ex_W 161 539 [.ref o, l1, l2, l3] (.ref o :: S) h X := w_st rfl
set_option maxRecDepth 100000 in
theorem s161_539 {l0 l1 l2 : Value} {S : List Value} {h : ex_Hp} {X : Option Value → ex_Hp → Prop} {x : Int32} : ex_W 161 539 [l0, l1, l2, .int x] S h X ↔ ex_W 161 540 [l0, l1, l2, .int x] (.int x :: S) h X := w_st rfl
set_option maxRecDepth 100000 in
theorem s161_540 {l0 l1 l2 l3 : Value} {S : List Value} {h : ex_Hp} {X : Option Value → ex_Hp → Prop} : ex_W 161 540 [l0, l1, l2, l3] S h X ↔ ex_W 161 541 [l0, l1, l2, l3] (.int (nI 1) :: S) h X := w_st rfl
set_option maxRecDepth 100000 in
theorem s161_541 {l0 l1 l2 l3 : Value} {S : List Value} {h : ex_Hp} {X : Option Value → ex_Hp → Prop} {x z : Int32} : ex_W 161 541 [l0, l1, l2, l3] (.int z :: .int x :: S) h X ↔ ex_W 161 542 [l0, l1, l2, l3] (.int (x + z) :: S) h X := w_st rfl
set_option maxRecDepth 100000 in
theorem s161_542 {l0 l1 l2 l3 : Value} {S : List Value} {h : ex_Hp} {X : Option Value → ex_Hp → Prop} {o : Nat} {i : Int32} : ex_W 161 542 [l0, l1, l2, l3] (.int i :: .ref o :: S) h X ↔ ex_al (ex_g h o) i (fun z => ex_W 161 543 [l0, l1, l2, l3] (.int z :: S) h X) := w_iald rfl rfl
set_option maxRecDepth 100000 in
theorem s161_543 {l1 l2 l3 : Value} {S : List Value} {h : ex_Hp} {X : Option Value → ex_Hp → Prop} {o : Nat} : ex_W 161 543 [.ref o, l1, l2, l3] S h X ↔ ex_W 161 544 [.ref o, l1, l2, l3] (.ref o :: S) h X := w_st rfl
set_option maxRecDepth 100000 in
theorem s161_544 {l0 l1 l2 : Value} {S : List Value} {h : ex_Hp} {X : Option Value → ex_Hp → Prop} {x : Int32} : ex_W 161 544 [l0, l1, l2, .int x] S h X ↔ ex_W 161 545 [l0, l1, l2, .int x] (.int x :: S) h X := w_st rfl
set_option maxRecDepth 100000 in
theorem s161_545 {l0 l1 l2 l3 : Value} {S : List Value} {h : ex_Hp} {X : Option Value → ex_Hp → Prop} : ex_W 161 545 [l0, l1, l2, l3] S h X ↔ ex_W 161 546 [l0, l1, l2, l3] (.int (nI 2) :: S) h X := w_st rfl
set_option maxRecDepth 100000 in
theorem s161_546 {l0 l1 l2 l3 : Value} {S : List Value} {h : ex_Hp} {X : Option Value → ex_Hp → Prop} {x z : Int32} : ex_W 161 546 [l0, l1, l2, l3] (.int z :: .int x :: S) h X ↔ ex_W 161 547 [l0, l1, l2, l3] (.int (x + z) :: S) h X := w_st rfl
set_option maxRecDepth 100000 in
theorem s161_547 {l0 l1 l2 l3 : Value} {S : List Value} {h : ex_Hp} {X : Option Value → ex_Hp → Prop} {o : Nat} {i : Int32} : ex_W 161 547 [l0, l1, l2, l3] (.int i :: .ref o :: S) h X ↔ ex_al (ex_g h o) i (fun z => ex_W 161 548 [l0, l1, l2, l3] (.int z :: S) h X) := w_iald rfl rfl
set_option maxRecDepth 100000 in
theorem s161_548 {l1 l2 l3 : Value} {S : List Value} {h : ex_Hp} {X : Option Value → ex_Hp → Prop} {o : Nat} : ex_W 161 548 [.ref o, l1, l2, l3] S h X ↔ ex_W 161 549 [.ref o, l1, l2, l3] (.ref o :: S) h X := w_st rfl
set_option maxRecDepth 100000 in
theorem s161_549 {l0 l1 l2 : Value} {S : List Value} {h : ex_Hp} {X : Option Value → ex_Hp → Prop} {x : Int32} : ex_W 161 549 [l0, l1, l2, .int x] S h X ↔ ex_W 161 550 [l0, l1, l2, .int x] (.int x :: S) h X := w_st rfl
set_option maxRecDepth 100000 in
theorem s161_550 {l0 l1 l2 l3 : Value} {S : List Value} {h : ex_Hp} {X : Option Value → ex_Hp → Prop} : ex_W 161 550 [l0, l1, l2, l3] S h X ↔ ex_W 161 551 [l0, l1, l2, l3] (.int (nI 3) :: S) h X := w_st rfl
set_option maxRecDepth 100000 in
theorem s161_551 {l0 l1 l2 l3 : Value} {S : List Value} {h : ex_Hp} {X : Option Value → ex_Hp → Prop} {x z : Int32} : ex_W 161 551 [l0, l1, l2, l3] (.int z :: .int x :: S) h X ↔ ex_W 161 552 [l0, l1, l2, l3] (.int (x + z) :: S) h X := w_st rfl
set_option maxRecDepth 100000 in
theorem s161_552 {l0 l1 l2 l3 : Value} {S : List Value} {h : ex_Hp} {X : Option Value → ex_Hp → Prop} {o : Nat} {i : Int32} : ex_W 161 552 [l0, l1, l2, l3] (.int i :: .ref o :: S) h X ↔ ex_al (ex_g h o) i (fun z => ex_W 161 553 [l0, l1, l2, l3] (.int z :: S) h X) := w_iald rfl rfl
set_option maxRecDepth 100000 in
theorem s161_553 {l1 l2 l3 : Value} {S : List Value} {h : ex_Hp} {X : Option Value → ex_Hp → Prop} {o : Nat} : ex_W 161 553 [.ref o, l1, l2, l3] S h X ↔ ex_W 161 554 [.ref o, l1, l2, l3] (.ref o :: S) h X := w_st rfl
set_option maxRecDepth 100000 in
theorem s161_554 {l0 l1 l2 : Value} {S : List Value} {h : ex_Hp} {X : Option Value → ex_Hp → Prop} {x : Int32} : ex_W 161 554 [l0, l1, l2, .int x] S h X ↔ ex_W 161 555 [l0, l1, l2, .int x] (.int x :: S) h X := w_st rfl
set_option maxRecDepth 100000 in
theorem s161_555 {l0 l1 l2 l3 : Value} {S : List Value} {h : ex_Hp} {X : Option Value → ex_Hp → Prop} : ex_W 161 555 [l0, l1, l2, l3] S h X ↔ ex_W 161 556 [l0, l1, l2, l3] (.int (nI 4) :: S) h X := w_st rfl
set_option maxRecDepth 100000 in
theorem s161_556 {l0 l1 l2 l3 : Value} {S : List Value} {h : ex_Hp} {X : Option Value → ex_Hp → Prop} {x z : Int32} : ex_W 161 556 [l0, l1, l2, l3] (.int z :: .int x :: S) h X ↔ ex_W 161 557 [l0, l1, l2, l3] (.int (x + z) :: S) h X := w_st rfl
set_option maxRecDepth 100000 in
theorem s161_557 {l0 l1 l2 l3 : Value} {S : List Value} {h : ex_Hp} {X : Option Value → ex_Hp → Prop} {o : Nat} {i : Int32} : ex_W 161 557 [l0, l1, l2, l3] (.int i :: .ref o :: S) h X ↔ ex_al (ex_g h o) i (fun z => ex_W 161 558 [l0, l1, l2, l3] (.int z :: S) h X) := w_iald rfl rfl
set_option maxRecDepth 100000 in
theorem s161_558 {l0 l1 l2 l3 : Value} {S : List Value} {h : ex_Hp} {X : Option Value → ex_Hp → Prop} {x0 : Nat} {x1 : Int32} {x2 : Int32} {x3 : Int32} {x4 : Int32} : ex_W 161 558 [l0, l1, l2, l3] (.int x4 :: .int x3 :: .int x2 :: .int x1 :: .ref x0 :: S) h X ↔ ex_cat S ≤ 8 ∧ ex_is (ex_g h x0) 8 ∧ ex_W 136 0 [.ref x0, .int x1, .int x2, .int x3, .int x4, oU] [] h (fun r h1 => ex_W 161 561 [l0, l1, l2, l3] (r.toList ++ S) h1 X) := w_cav (o := x0) (As := [.int x1, .int x2, .int x3, .int x4]) (rest := S) rfl rfl rfl rfl rfl rfl rfl rfl rfl
set_option maxRecDepth 100000 in
theorem s161_561 {l0 l1 l2 l3 : Value} {S : List Value} {h : ex_Hp} {X : Option Value → ex_Hp → Prop} {x z : Int32} : ex_W 161 561 [l0, l1, l2, l3] (.int z :: .int x :: S) h X ↔ if x = z then ex_W 161 866 [l0, l1, l2, l3] S h X else ex_W 161 564 [l0, l1, l2, l3] S h X := (w_st rfl).trans (w_cmp (p := x = z) (by exact decide_eq_true_iff))
set_option maxRecDepth 100000 in
theorem s161_564 {l0 l1 l2 l3 : Value} {S : List Value} {h : ex_Hp} {X : Option Value → ex_Hp → Prop} : ex_W 161 564 [l0, l1, l2, l3] S h X ↔ ex_W 161 565 [l0, l1, l2, l3] (.int (nI 0) :: S) h X := w_st rfl
set_option maxRecDepth 100000 in
theorem s161_565 {l0 l1 l2 l3 : Value} {h : ex_Hp} {X : Option Value → ex_Hp → Prop} {x : Int32} : ex_W 161 565 [l0, l1, l2, l3] [.int x] h X ↔ (x = nI 0 ∨ x = nI 1) ∧ X (some (.int x)) h := w_rez rfl
set_option maxRecDepth 100000 in
theorem s161_566 {l0 l2 l3 : Value} {S : List Value} {h : ex_Hp} {X : Option Value → ex_Hp → Prop} {o : Nat} : ex_W 161 566 [l0, .ref o, l2, l3] S h X ↔ ex_W 161 567 [l0, .ref o, l2, l3] (.ref o :: S) h X := w_st rfl
set_option maxRecDepth 100000 in
theorem s161_567 {l1 l2 l3 : Value} {S : List Value} {h : ex_Hp} {X : Option Value → ex_Hp → Prop} {o : Nat} : ex_W 161 567 [.ref o, l1, l2, l3] S h X ↔ ex_W 161 568 [.ref o, l1, l2, l3] (.ref o :: S) h X := w_st rfl
set_option maxRecDepth 100000 in
theorem s161_568 {l0 l1 l2 : Value} {S : List Value} {h : ex_Hp} {X : Option Value → ex_Hp → Prop} {x : Int32} : ex_W 161 568 [l0, l1, l2, .int x] S h X ↔ ex_W 161 569 [l0, l1, l2, .int x] (.int x :: S) h X := w_st rfl
set_option maxRecDepth 100000 in
theorem s161_569 {l0 l1 l2 l3 : Value} {S : List Value} {h : ex_Hp} {X : Option Value → ex_Hp → Prop} : ex_W 161 569 [l0, l1, l2, l3] S h X ↔ ex_W 161 570 [l0, l1, l2, l3] (.int (nI 1) :: S) h X := w_st rfl
set_option maxRecDepth 100000 in
theorem s161_570 {l0 l1 l2 l3 : Value} {S : List Value} {h : ex_Hp} {X : Option Value → ex_Hp → Prop} {x z : Int32} : ex_W 161 570 [l0, l1, l2, l3] (.int z :: .int x :: S) h X ↔ ex_W 161 571 [l0, l1, l2, l3] (.int (x + z) :: S) h X := w_st rfl
set_option maxRecDepth 100000 in
theorem s161_571 {l0 l1 l2 l3 : Value} {S : List Value} {h : ex_Hp} {X : Option Value → ex_Hp → Prop} {o : Nat} {i : Int32} : ex_W 161 571 [l0, l1, l2, l3] (.int i :: .ref o :: S) h X ↔ ex_al (ex_g h o) i (fun z => ex_W 161 572 [l0, l1, l2, l3] (.int z :: S) h X) := w_iald rfl rfl
set_option maxRecDepth 100000 in
theorem s161_572 {l1 l2 l3 : Value} {S : List Value} {h : ex_Hp} {X : Option Value → ex_Hp → Prop} {o : Nat} : ex_W 161 572 [.ref o, l1, l2, l3] S h X ↔ ex_W 161 573 [.ref o, l1, l2, l3] (.ref o :: S) h X := w_st rfl
set_option maxRecDepth 100000 in
theorem s161_573 {l0 l1 l2 : Value} {S : List Value} {h : ex_Hp} {X : Option Value → ex_Hp → Prop} {x : Int32} : ex_W 161 573 [l0, l1, l2, .int x] S h X ↔ ex_W 161 574 [l0, l1, l2, .int x] (.int x :: S) h X := w_st rfl
set_option maxRecDepth 100000 in
theorem s161_574 {l0 l1 l2 l3 : Value} {S : List Value} {h : ex_Hp} {X : Option Value → ex_Hp → Prop} : ex_W 161 574 [l0, l1, l2, l3] S h X ↔ ex_W 161 575 [l0, l1, l2, l3] (.int (nI 2) :: S) h X := w_st rfl
set_option maxRecDepth 100000 in
theorem s161_575 {l0 l1 l2 l3 : Value} {S : List Value} {h : ex_Hp} {X : Option Value → ex_Hp → Prop} {x z : Int32} : ex_W 161 575 [l0, l1, l2, l3] (.int z :: .int x :: S) h X ↔ ex_W 161 576 [l0, l1, l2, l3] (.int (x + z) :: S) h X := w_st rfl
set_option maxRecDepth 100000 in
theorem s161_576 {l0 l1 l2 l3 : Value} {S : List Value} {h : ex_Hp} {X : Option Value → ex_Hp → Prop} {o : Nat} {i : Int32} : ex_W 161 576 [l0, l1, l2, l3] (.int i :: .ref o :: S) h X ↔ ex_al (ex_g h o) i (fun z => ex_W 161 577 [l0, l1, l2, l3] (.int z :: S) h X) := w_iald rfl rfl
set_option maxRecDepth 100000 in
theorem s161_577 {l1 l2 l3 : Value} {S : List Value} {h : ex_Hp} {X : Option Value → ex_Hp → Prop} {o : Nat} : ex_W 161 577 [.ref o, l1, l2, l3] S h X ↔ ex_W 161 578 [.ref o, l1, l2, l3] (.ref o :: S) h X := w_st rfl
set_option maxRecDepth 100000 in
theorem s161_578 {l0 l1 l2 : Value} {S : List Value} {h : ex_Hp} {X : Option Value → ex_Hp → Prop} {x : Int32} : ex_W 161 578 [l0, l1, l2, .int x] S h X ↔ ex_W 161 579 [l0, l1, l2, .int x] (.int x :: S) h X := w_st rfl
set_option maxRecDepth 100000 in
theorem s161_579 {l0 l1 l2 l3 : Value} {S : List Value} {h : ex_Hp} {X : Option Value → ex_Hp → Prop} : ex_W 161 579 [l0, l1, l2, l3] S h X ↔ ex_W 161 580 [l0, l1, l2, l3] (.int (nI 3) :: S) h X := w_st rfl
set_option maxRecDepth 100000 in
theorem s161_580 {l0 l1 l2 l3 : Value} {S : List Value} {h : ex_Hp} {X : Option Value → ex_Hp → Prop} {x z : Int32} : ex_W 161 580 [l0, l1, l2, l3] (.int z :: .int x :: S) h X ↔ ex_W 161 581 [l0, l1, l2, l3] (.int (x + z) :: S) h X := w_st rfl
set_option maxRecDepth 100000 in
theorem s161_581 {l0 l1 l2 l3 : Value} {S : List Value} {h : ex_Hp} {X : Option Value → ex_Hp → Prop} {o : Nat} {i : Int32} : ex_W 161 581 [l0, l1, l2, l3] (.int i :: .ref o :: S) h X ↔ ex_al (ex_g h o) i (fun z => ex_W 161 582 [l0, l1, l2, l3] (.int z :: S) h X) := w_iald rfl rfl
set_option maxRecDepth 100000 in
theorem s161_582 {l0 l1 l2 l3 : Value} {S : List Value} {h : ex_Hp} {X : Option Value → ex_Hp → Prop} {x0 : Nat} {x1 : Int32} {x2 : Int32} {x3 : Int32} : ex_W 161 582 [l0, l1, l2, l3] (.int x3 :: .int x2 :: .int x1 :: .ref x0 :: S) h X ↔ ex_cat S ≤ 8 ∧ ex_is (ex_g h x0) 7 ∧ ex_W 75 0 [.ref x0, .int x1, .int x2, .int x3] [] h (fun r h1 => ex_W 161 585 [l0, l1, l2, l3] (r.toList ++ S) h1 X) := w_cav (o := x0) (As := [.int x1, .int x2, .int x3]) (rest := S) rfl rfl rfl rfl rfl rfl rfl rfl rfl
set_option maxRecDepth 100000 in
theorem s161_585 {l0 l1 l3 : Value} {S : List Value} {h : ex_Hp} {X : Option Value → ex_Hp → Prop} {o : Nat} : ex_W 161 585 [l0, l1, .ref o, l3] S h X ↔ ex_W 161 586 [l0, l1, .ref o, l3] (.ref o :: S) h X := w_st rfl
set_option maxRecDepth 100000 in
theorem s161_586 {l1 l2 l3 : Value} {S : List Value} {h : ex_Hp} {X : Option Value → ex_Hp → Prop} {o : Nat} : ex_W 161 586 [.ref o, l1, l2, l3] S h X ↔ ex_W 161 587 [.ref o, l1, l2, l3] (.ref o :: S) h X := w_st rfl
set_option maxRecDepth 100000 in
theorem s161_587 {l0 l1 l2 : Value} {S : List Value} {h : ex_Hp} {X : Option Value → ex_Hp → Prop} {x : Int32} : ex_W 161 587 [l0, l1, l2, .int x] S h X ↔ ex_W 161 588 [l0, l1, l2, .int x] (.int x :: S) h X := w_st rfl
set_option maxRecDepth 100000 in
theorem s161_588 {l0 l1 l2 l3 : Value} {S : List Value} {h : ex_Hp} {X : Option Value → ex_Hp → Prop} : ex_W 161 588 [l0, l1, l2, l3] S h X ↔ ex_W 161 589 [l0, l1, l2, l3] (.int (nI 1) :: S) h X := w_st rfl
set_option maxRecDepth 100000 in
theorem s161_589 {l0 l1 l2 l3 : Value} {S : List Value} {h : ex_Hp} {X : Option Value → ex_Hp → Prop} {x z : Int32} : ex_W 161 589 [l0, l1, l2, l3] (.int z :: .int x :: S) h X ↔ ex_W 161 590 [l0, l1, l2, l3] (.int (x + z) :: S) h X := w_st rfl
set_option maxRecDepth 100000 in
theorem s161_590 {l0 l1 l2 l3 : Value} {S : List Value} {h : ex_Hp} {X : Option Value → ex_Hp → Prop} {o : Nat} {i : Int32} : ex_W 161 590 [l0, l1, l2, l3] (.int i :: .ref o :: S) h X ↔ ex_al (ex_g h o) i (fun z => ex_W 161 591 [l0, l1, l2, l3] (.int z :: S) h X) := w_iald rfl rfl
set_option maxRecDepth 100000 in
theorem s161_591 {l1 l2 l3 : Value} {S : List Value} {h : ex_Hp} {X : Option Value → ex_Hp → Prop} {o : Nat} : ex_W 161 591 [.ref o, l1, l2, l3] S h X ↔ ex_W 161 592 [.ref o, l1, l2, l3] (.ref o :: S) h X := w_st rfl
set_option maxRecDepth 100000 in
theorem s161_592 {l0 l1 l2 : Value} {S : List Value} {h : ex_Hp} {X : Option Value → ex_Hp → Prop} {x : Int32} : ex_W 161 592 [l0, l1, l2, .int x] S h X ↔ ex_W 161 593 [l0, l1, l2, .int x] (.int x :: S) h X := w_st rfl
set_option maxRecDepth 100000 in
theorem s161_593 {l0 l1 l2 l3 : Value} {S : List Value} {h : ex_Hp} {X : Option Value → ex_Hp → Prop} : ex_W 161 593 [l0, l1, l2, l3] S h X ↔ ex_W 161 594 [l0, l1, l2, l3] (.int (nI 2) :: S) h X := w_st rfl
set_option maxRecDepth 100000 in
theorem s161_594 {l0 l1 l2 l3 : Value} {S : List Value} {h : ex_Hp} {X : Option Value → ex_Hp → Prop} {x z : Int32} : ex_W 161 594 [l0, l1, l2, l3] (.int z :: .int x :: S) h X ↔ ex_W 161 595 [l0, l1, l2, l3] (.int (x + z) :: S) h X := w_st rfl
set_option maxRecDepth 100000 in
theorem s161_595 {l0 l1 l2 l3 : Value} {S : List Value} {h : ex_Hp} {X : Option Value → ex_Hp → Prop} {o : Nat} {i : Int32} : ex_W 161 595 [l0, l1, l2, l3] (.int i :: .ref o :: S) h X ↔ ex_al (ex_g h o) i (fun z => ex_W 161 596 [l0, l1, l2, l3] (.int z :: S) h X) := w_iald rfl rfl
set_option maxRecDepth 100000 in
theorem s161_596 {l1 l2 l3 : Value} {S : List Value} {h : ex_Hp} {X : Option Value → ex_Hp → Prop} {o : Nat} : ex_W 161 596 [.ref o, l1, l2, l3] S h X ↔ ex_W 161 597 [.ref o, l1, l2, l3] (.ref o :: S) h X := w_st rfl
set_option maxRecDepth 100000 in
theorem s161_597 {l0 l1 l2 : Value} {S : List Value} {h : ex_Hp} {X : Option Value → ex_Hp → Prop} {x : Int32} : ex_W 161 597 [l0, l1, l2, .int x] S h X ↔ ex_W 161 598 [l0, l1, l2, .int x] (.int x :: S) h X := w_st rfl
set_option maxRecDepth 100000 in
theorem s161_598 {l0 l1 l2 l3 : Value} {S : List Value} {h : ex_Hp} {X : Option Value → ex_Hp → Prop} : ex_W 161 598 [l0, l1, l2, l3] S h X ↔ ex_W 161 599 [l0, l1, l2, l3] (.int (nI 3) :: S) h X := w_st rfl
set_option maxRecDepth 100000 in
theorem s161_599 {l0 l1 l2 l3 : Value} {S : List Value} {h : ex_Hp} {X : Option Value → ex_Hp → Prop} {x z : Int32} : ex_W 161 599 [l0, l1, l2, l3] (.int z :: .int x :: S) h X ↔ ex_W 161 600 [l0, l1, l2, l3] (.int (x + z) :: S) h X := w_st rfl
set_option maxRecDepth 100000 in
theorem s161_600 {l0 l1 l2 l3 : Value} {S : List Value} {h : ex_Hp} {X : Option Value → ex_Hp → Prop} {o : Nat} {i : Int32} : ex_W 161 600 [l0, l1, l2, l3] (.int i :: .ref o :: S) h X ↔ ex_al (ex_g h o) i (fun z => ex_W 161 601 [l0, l1, l2, l3] (.int z :: S) h X) := w_iald rfl rfl
set_option maxRecDepth 100000 in
theorem s161_601 {l0 l1 l2 l3 : Value} {S : List Value} {h : ex_Hp} {X : Option Value → ex_Hp → Prop} {x0 : Nat} {x1 : Int32} {x2 : Int32} {x3 : Int32} : ex_W 161 601 [l0, l1, l2, l3] (.int x3 :: .int x2 :: .int x1 :: .ref x0 :: S) h X ↔ ex_cat S ≤ 8 ∧ ex_is (ex_g h x0) 8 ∧ ex_W 137 0 [.ref x0, .int x1, .int x2, .int x3, oU] [] h (fun r h1 => ex_W 161 604 [l0, l1, l2, l3] (r.toList ++ S) h1 X) := w_cav (o := x0) (As := [.int x1, .int x2, .int x3]) (rest := S) rfl rfl rfl rfl rfl rfl rfl rfl rfl
set_option maxRecDepth 100000 in
theorem s161_604 {l0 l1 l2 l3 : Value} {S : List Value} {h : ex_Hp} {X : Option Value → ex_Hp → Prop} {x z : Int32} : ex_W 161 604 [l0, l1, l2, l3] (.int z :: .int x :: S) h X ↔ if x = z then ex_W 161 866 [l0, l1, l2, l3] S h X else ex_W 161 607 [l0, l1, l2, l3] S h X := (w_st rfl).trans (w_cmp (p := x = z) (by exact decide_eq_true_iff))
set_option maxRecDepth 100000 in
theorem s161_607 {l0 l1 l2 l3 : Value} {S : List Value} {h : ex_Hp} {X : Option Value → ex_Hp → Prop} : ex_W 161 607 [l0, l1, l2, l3] S h X ↔ ex_W 161 608 [l0, l1, l2, l3] (.int (nI 0) :: S) h X := w_st rfl
set_option maxRecDepth 100000 in
theorem s161_608 {l0 l1 l2 l3 : Value} {h : ex_Hp} {X : Option Value → ex_Hp → Prop} {x : Int32} : ex_W 161 608 [l0, l1, l2, l3] [.int x] h X ↔ (x = nI 0 ∨ x = nI 1) ∧ X (some (.int x)) h := w_rez rfl
set_option maxRecDepth 100000 in
theorem s161_609 {l0 l2 l3 : Value} {S : List Value} {h : ex_Hp} {X : Option Value → ex_Hp → Prop} {o : Nat} : ex_W 161 609 [l0, .ref o, l2, l3] S h X ↔ ex_W 161 610 [l0, .ref o, l2, l3] (.ref o :: S) h X := w_st rfl
set_option maxRecDepth 100000 in
theorem s161_610 {l1 l2 l3 : Value} {S : List Value} {h : ex_Hp} {X : Option Value → ex_Hp → Prop} {o : Nat} : ex_W 161 610 [.ref o, l1, l2, l3] S h X ↔ ex_W 161 611 [.ref o, l1, l2, l3] (.ref o :: S) h X := w_st rfl
set_option maxRecDepth 100000 in
theorem s161_611 {l0 l1 l2 : Value} {S : List Value} {h : ex_Hp} {X : Option Value → ex_Hp → Prop} {x : Int32} : ex_W 161 611 [l0, l1, l2, .int x] S h X ↔ ex_W 161 612 [l0, l1, l2, .int x] (.int x :: S) h X := w_st rfl
set_option maxRecDepth 100000 in
theorem s161_612 {l0 l1 l2 l3 : Value} {S : List Value} {h : ex_Hp} {X : Option Value → ex_Hp → Prop} : ex_W 161 612 [l0, l1, l2, l3] S h X ↔ ex_W 161 613 [l0, l1, l2, l3] (.int (nI 1) :: S) h X := w_st rfl
set_option maxRecDepth 100000 in
theorem s161_613 {l0 l1 l2 l3 : Value} {S : List Value} {h : ex_Hp} {X : Option Value → ex_Hp → Prop} {x z : Int32} : ex_W 161 613 [l0, l1, l2, l3] (.int z :: .int x :: S) h X ↔ ex_W 161 614 [l0, l1, l2, l3] (.int (x + z) :: S) h X := w_st rfl
set_option maxRecDepth 100000 in
theorem s161_614 {l0 l1 l2 l3 : Value} {S : List Value} {h : ex_Hp} {X : Option Value → ex_Hp → Prop} {o : Nat} {i : Int32} : ex_W 161 614 [l0, l1, l2, l3] (.int i :: .ref o :: S) h X ↔ ex_al (ex_g h o) i (fun z => ex_W 161 615 [l0, l1, l2, l3] (.int z :: S) h X) := w_iald rfl rfl
set_option maxRecDepth 100000 in
theorem s161_615 {l1 l2 l3 : Value} {S : List Value} {h : ex_Hp} {X : Option Value → ex_Hp → Prop} {o : Nat} : ex_W 161 615 [.ref o, l1, l2, l3] S h X ↔ ex_W 161 616 [.ref o, l1, l2, l3] (.ref o :: S) h X := w_st rfl
set_option maxRecDepth 100000 in
theorem s161_616 {l0 l1 l2 : Value} {S : List Value} {h : ex_Hp} {X : Option Value → ex_Hp → Prop} {x : Int32} : ex_W 161 616 [l0, l1, l2, .int x] S h X ↔ ex_W 161 617 [l0, l1, l2, .int x] (.int x :: S) h X := w_st rfl
set_option maxRecDepth 100000 in
theorem s161_617 {l0 l1 l2 l3 : Value} {S : List Value} {h : ex_Hp} {X : Option Value → ex_Hp → Prop} : ex_W 161 617 [l0, l1, l2, l3] S h X ↔ ex_W 161 618 [l0, l1, l2, l3] (.int (nI 2) :: S) h X := w_st rfl
set_option maxRecDepth 100000 in
theorem s161_618 {l0 l1 l2 l3 : Value} {S : List Value} {h : ex_Hp} {X : Option Value → ex_Hp → Prop} {x z : Int32} : ex_W 161 618 [l0, l1, l2, l3] (.int z :: .int x :: S) h X ↔ ex_W 161 619 [l0, l1, l2, l3] (.int (x + z) :: S) h X := w_st rfl
set_option maxRecDepth 100000 in
theorem s161_619 {l0 l1 l2 l3 : Value} {S : List Value} {h : ex_Hp} {X : Option Value → ex_Hp → Prop} {o : Nat} {i : Int32} : ex_W 161 619 [l0, l1, l2, l3] (.int i :: .ref o :: S) h X ↔ ex_al (ex_g h o) i (fun z => ex_W 161 620 [l0, l1, l2, l3] (.int z :: S) h X) := w_iald rfl rfl
set_option maxRecDepth 100000 in
theorem s161_620 {l0 l1 l2 l3 : Value} {S : List Value} {h : ex_Hp} {X : Option Value → ex_Hp → Prop} {x0 : Nat} {x1 : Int32} {x2 : Int32} : ex_W 161 620 [l0, l1, l2, l3] (.int x2 :: .int x1 :: .ref x0 :: S) h X ↔ ex_cat S ≤ 8 ∧ ex_is (ex_g h x0) 7 ∧ ex_W 76 0 [.ref x0, .int x1, .int x2] [] h (fun r h1 => ex_W 161 623 [l0, l1, l2, l3] (r.toList ++ S) h1 X) := w_cav (o := x0) (As := [.int x1, .int x2]) (rest := S) rfl rfl rfl rfl rfl rfl rfl rfl rfl
set_option maxRecDepth 100000 in
theorem s161_623 {l0 l1 l3 : Value} {S : List Value} {h : ex_Hp} {X : Option Value → ex_Hp → Prop} {o : Nat} : ex_W 161 623 [l0, l1, .ref o, l3] S h X ↔ ex_W 161 624 [l0, l1, .ref o, l3] (.ref o :: S) h X := w_st rfl
set_option maxRecDepth 100000 in
theorem s161_624 {l1 l2 l3 : Value} {S : List Value} {h : ex_Hp} {X : Option Value → ex_Hp → Prop} {o : Nat} : ex_W 161 624 [.ref o, l1, l2, l3] S h X ↔ ex_W 161 625 [.ref o, l1, l2, l3] (.ref o :: S) h X := w_st rfl
set_option maxRecDepth 100000 in
theorem s161_625 {l0 l1 l2 : Value} {S : List Value} {h : ex_Hp} {X : Option Value → ex_Hp → Prop} {x : Int32} : ex_W 161 625 [l0, l1, l2, .int x] S h X ↔ ex_W 161 626 [l0, l1, l2, .int x] (.int x :: S) h X := w_st rfl
set_option maxRecDepth 100000 in
theorem s161_626 {l0 l1 l2 l3 : Value} {S : List Value} {h : ex_Hp} {X : Option Value → ex_Hp → Prop} : ex_W 161 626 [l0, l1, l2, l3] S h X ↔ ex_W 161 627 [l0, l1, l2, l3] (.int (nI 1) :: S) h X := w_st rfl
set_option maxRecDepth 100000 in
theorem s161_627 {l0 l1 l2 l3 : Value} {S : List Value} {h : ex_Hp} {X : Option Value → ex_Hp → Prop} {x z : Int32} : ex_W 161 627 [l0, l1, l2, l3] (.int z :: .int x :: S) h X ↔ ex_W 161 628 [l0, l1, l2, l3] (.int (x + z) :: S) h X := w_st rfl
set_option maxRecDepth 100000 in
theorem s161_628 {l0 l1 l2 l3 : Value} {S : List Value} {h : ex_Hp} {X : Option Value → ex_Hp → Prop} {o : Nat} {i : Int32} : ex_W 161 628 [l0, l1, l2, l3] (.int i :: .ref o :: S) h X ↔ ex_al (ex_g h o) i (fun z => ex_W 161 629 [l0, l1, l2, l3] (.int z :: S) h X) := w_iald rfl rfl
set_option maxRecDepth 100000 in
theorem s161_629 {l1 l2 l3 : Value} {S : List Value} {h : ex_Hp} {X : Option Value → ex_Hp → Prop} {o : Nat} : ex_W 161 629 [.ref o, l1, l2, l3] S h X ↔ ex_W 161 630 [.ref o, l1, l2, l3] (.ref o :: S) h X := w_st rfl
set_option maxRecDepth 100000 in
theorem s161_630 {l0 l1 l2 : Value} {S : List Value} {h : ex_Hp} {X : Option Value → ex_Hp → Prop} {x : Int32} : ex_W 161 630 [l0, l1, l2, .int x] S h X ↔ ex_W 161 631 [l0, l1, l2, .int x] (.int x :: S) h X := w_st rfl
set_option maxRecDepth 100000 in
theorem s161_631 {l0 l1 l2 l3 : Value} {S : List Value} {h : ex_Hp} {X : Option Value → ex_Hp → Prop} : ex_W 161 631 [l0, l1, l2, l3] S h X ↔ ex_W 161 632 [l0, l1, l2, l3] (.int (nI 2) :: S) h X := w_st rfl
set_option maxRecDepth 100000 in
theorem s161_632 {l0 l1 l2 l3 : Value} {S : List Value} {h : ex_Hp} {X : Option Value → ex_Hp → Prop} {x z : Int32} : ex_W 161 632 [l0, l1, l2, l3] (.int z :: .int x :: S) h X ↔ ex_W 161 633 [l0, l1, l2, l3] (.int (x + z) :: S) h X := w_st rfl
set_option maxRecDepth 100000 in
theorem s161_633 {l0 l1 l2 l3 : Value} {S : List Value} {h : ex_Hp} {X : Option Value → ex_Hp → Prop} {o : Nat} {i : Int32} : ex_W 161 633 [l0, l1, l2, l3] (.int i :: .ref o :: S) h X ↔ ex_al (ex_g h o) i (fun z => ex_W 161 634 [l0, l1, l2, l3] (.int z :: S) h X) := w_iald rfl rfl
set_option maxRecDepth 100000 in
theorem s161_634 {l0 l1 l2 l3 : Value} {S : List Value} {h : ex_Hp} {X : Option Value → ex_Hp → Prop} {x0 : Nat} {x1 : Int32} {x2 : Int32} : ex_W 161 634 [l0, l1, l2, l3] (.int x2 :: .int x1 :: .ref x0 :: S) h X ↔ ex_cat S ≤ 8 ∧ ex_is (ex_g h x0) 8 ∧ ex_W 138 0 [.ref x0, .int x1, .int x2, oU] [] h (fun r h1 => ex_W 161 637 [l0, l1, l2, l3] (r.toList ++ S) h1 X) := w_cav (o := x0) (As := [.int x1, .int x2]) (rest := S) rfl rfl rfl rfl rfl rfl rfl rfl rfl
set_option maxRecDepth 100000 in
theorem s161_637 {l0 l1 l2 l3 : Value} {S : List Value} {h : ex_Hp} {X : Option Value → ex_Hp → Prop} {x z : Int32} : ex_W 161 637 [l0, l1, l2, l3] (.int z :: .int x :: S) h X ↔ if x = z then ex_W 161 866 [l0, l1, l2, l3] S h X else ex_W 161 640 [l0, l1, l2, l3] S h X := (w_st rfl).trans (w_cmp (p := x = z) (by exact decide_eq_true_iff))
set_option maxRecDepth 100000 in
theorem s161_640 {l0 l1 l2 l3 : Value} {S : List Value} {h : ex_Hp} {X : Option Value → ex_Hp → Prop} : ex_W 161 640 [l0, l1, l2, l3] S h X ↔ ex_W 161 641 [l0, l1, l2, l3] (.int (nI 0) :: S) h X := w_st rfl
set_option maxRecDepth 100000 in
theorem s161_641 {l0 l1 l2 l3 : Value} {h : ex_Hp} {X : Option Value → ex_Hp → Prop} {x : Int32} : ex_W 161 641 [l0, l1, l2, l3] [.int x] h X ↔ (x = nI 0 ∨ x = nI 1) ∧ X (some (.int x)) h := w_rez rfl
set_option maxRecDepth 100000 in
theorem s161_642 {l0 l2 l3 : Value} {S : List Value} {h : ex_Hp} {X : Option Value → ex_Hp → Prop} {o : Nat} : ex_W 161 642 [l0, .ref o, l2, l3] S h X ↔ ex_W 161 643 [l0, .ref o, l2, l3] (.ref o :: S) h X := w_st rfl
set_option maxRecDepth 100000 in
theorem s161_643 {l1 l2 l3 : Value} {S : List Value} {h : ex_Hp} {X : Option Value → ex_Hp → Prop} {o : Nat} : ex_W 161 643 [.ref o, l1, l2, l3] S h X ↔ ex_W 161 644 [.ref o, l1, l2, l3] (.ref o :: S) h X := w_st rfl
set_option maxRecDepth 100000 in
theorem s161_644 {l0 l1 l2 : Value} {S : List Value} {h : ex_Hp} {X : Option Value → ex_Hp → Prop} {x : Int32} : ex_W 161 644 [l0, l1, l2, .int x] S h X ↔ ex_W 161 645 [l0, l1, l2, .int x] (.int x :: S) h X := w_st rfl
set_option maxRecDepth 100000 in
theorem s161_645 {l0 l1 l2 l3 : Value} {S : List Value} {h : ex_Hp} {X : Option Value → ex_Hp → Prop} : ex_W 161 645 [l0, l1, l2, l3] S h X ↔ ex_W 161 646 [l0, l1, l2, l3] (.int (nI 1) :: S) h X := w_st rfl
set_option maxRecDepth 100000 in
theorem s161_646 {l0 l1 l2 l3 : Value} {S : List Value} {h : ex_Hp} {X : Option Value → ex_Hp → Prop} {x z : Int32} : ex_W 161 646 [l0, l1, l2, l3] (.int z :: .int x :: S) h X ↔ ex_W 161 647 [l0, l1, l2, l3] (.int (x + z) :: S) h X := w_st rfl
set_option maxRecDepth 100000 in
theorem s161_647 {l0 l1 l2 l3 : Value} {S : List Value} {h : ex_Hp} {X : Option Value → ex_Hp → Prop} {o : Nat} {i : Int32} : ex_W 161 647 [l0, l1, l2, l3] (.int i :: .ref o :: S) h X ↔ ex_al (ex_g h o) i (fun z => ex_W 161 648 [l0, l1, l2, l3] (.int z :: S) h X) := w_iald rfl rfl
set_option maxRecDepth 100000 in
theorem s161_648 {l0 l1 l2 l3 : Value} {S : List Value} {h : ex_Hp} {X : Option Value → ex_Hp → Prop} {x0 : Nat} {x1 : Int32} : ex_W 161 648 [l0, l1, l2, l3] (.int x1 :: .ref x0 :: S) h X ↔ ex_cat S ≤ 8 ∧ ex_is (ex_g h x0) 7 ∧ ex_W 77 0 [.ref x0, .int x1] [] h (fun r h1 => ex_W 161 651 [l0, l1, l2, l3] (r.toList ++ S) h1 X) := w_cav (o := x0) (As := [.int x1]) (rest := S) rfl rfl rfl rfl rfl rfl rfl rfl rfl
set_option maxRecDepth 100000 in
theorem s161_651 {l0 l1 l3 : Value} {S : List Value} {h : ex_Hp} {X : Option Value → ex_Hp → Prop} {o : Nat} : ex_W 161 651 [l0, l1, .ref o, l3] S h X ↔ ex_W 161 652 [l0, l1, .ref o, l3] (.ref o :: S) h X := w_st rfl
set_option maxRecDepth 100000 in
theorem s161_652 {l1 l2 l3 : Value} {S : List Value} {h : ex_Hp} {X : Option Value → ex_Hp → Prop} {o : Nat} : ex_W 161 652 [.ref o, l1, l2, l3] S h X ↔ ex_W 161 653 [.ref o, l1, l2, l3] (.ref o :: S) h X := w_st rfl
set_option maxRecDepth 100000 in
theorem s161_653 {l0 l1 l2 : Value} {S : List Value} {h : ex_Hp} {X : Option Value → ex_Hp → Prop} {x : Int32} : ex_W 161 653 [l0, l1, l2, .int x] S h X ↔ ex_W 161 654 [l0, l1, l2, .int x] (.int x :: S) h X := w_st rfl
set_option maxRecDepth 100000 in
theorem s161_654 {l0 l1 l2 l3 : Value} {S : List Value} {h : ex_Hp} {X : Option Value → ex_Hp → Prop} : ex_W 161 654 [l0, l1, l2, l3] S h X ↔ ex_W 161 655 [l0, l1, l2, l3] (.int (nI 1) :: S) h X := w_st rfl
set_option maxRecDepth 100000 in
theorem s161_655 {l0 l1 l2 l3 : Value} {S : List Value} {h : ex_Hp} {X : Option Value → ex_Hp → Prop} {x z : Int32} : ex_W 161 655 [l0, l1, l2, l3] (.int z :: .int x :: S) h X ↔ ex_W 161 656 [l0, l1, l2, l3] (.int (x + z) :: S) h X := w_st rfl
set_option maxRecDepth 100000 in
theorem s161_656 {l0 l1 l2 l3 : Value} {S : List Value} {h : ex_Hp} {X : Option Value → ex_Hp → Prop} {o : Nat} {i : Int32} : ex_W 161 656 [l0, l1, l2, l3] (.int i :: .ref o :: S) h X ↔ ex_al (ex_g h o) i (fun z => ex_W 161 657 [l0, l1, l2, l3] (.int z :: S) h X) := w_iald rfl rfl
set_option maxRecDepth 100000 in
theorem s161_657 {l0 l1 l2 l3 : Value} {S : List Value} {h : ex_Hp} {X : Option Value → ex_Hp → Prop} {x0 : Nat} {x1 : Int32} : ex_W 161 657 [l0, l1, l2, l3] (.int x1 :: .ref x0 :: S) h X ↔ ex_cat S ≤ 8 ∧ ex_is (ex_g h x0) 8 ∧ ex_W 139 0 [.ref x0, .int x1, oU, oU] [] h (fun r h1 => ex_W 161 660 [l0, l1, l2, l3] (r.toList ++ S) h1 X) := w_cav (o := x0) (As := [.int x1]) (rest := S) rfl rfl rfl rfl rfl rfl rfl rfl rfl
set_option maxRecDepth 100000 in
theorem s161_660 {l0 l1 l2 l3 : Value} {S : List Value} {h : ex_Hp} {X : Option Value → ex_Hp → Prop} {x z : Int32} : ex_W 161 660 [l0, l1, l2, l3] (.int z :: .int x :: S) h X ↔ if x = z then ex_W 161 866 [l0, l1, l2, l3] S h X else ex_W 161 663 [l0, l1, l2, l3] S h X := (w_st rfl).trans (w_cmp (p := x = z) (by exact decide_eq_true_iff))
set_option maxRecDepth 100000 in
theorem s161_663 {l0 l1 l2 l3 : Value} {S : List Value} {h : ex_Hp} {X : Option Value → ex_Hp → Prop} : ex_W 161 663 [l0, l1, l2, l3] S h X ↔ ex_W 161 664 [l0, l1, l2, l3] (.int (nI 0) :: S) h X := w_st rfl
set_option maxRecDepth 100000 in
theorem s161_664 {l0 l1 l2 l3 : Value} {h : ex_Hp} {X : Option Value → ex_Hp → Prop} {x : Int32} : ex_W 161 664 [l0, l1, l2, l3] [.int x] h X ↔ (x = nI 0 ∨ x = nI 1) ∧ X (some (.int x)) h := w_rez rfl
set_option maxRecDepth 100000 in
theorem s161_665 {l0 l2 l3 : Value} {S : List Value} {h : ex_Hp} {X : Option Value → ex_Hp → Prop} {o : Nat} : ex_W 161 665 [l0, .ref o, l2, l3] S h X ↔ ex_W 161 666 [l0, .ref o, l2, l3] (.ref o :: S) h X := w_st rfl
set_option maxRecDepth 100000 in
theorem s161_666 {l1 l2 l3 : Value} {S : List Value} {h : ex_Hp} {X : Option Value → ex_Hp → Prop} {o : Nat} : ex_W 161 666 [.ref o, l1, l2, l3] S h X ↔ ex_W 161 667 [.ref o, l1, l2, l3] (.ref o :: S) h X := w_st rfl
set_option maxRecDepth 100000 in
theorem s161_667 {l0 l1 l2 : Value} {S : List Value} {h : ex_Hp} {X : Option Value → ex_Hp → Prop} {x : Int32} : ex_W 161 667 [l0, l1, l2, .int x] S h X ↔ ex_W 161 668 [l0, l1, l2, .int x] (.int x :: S) h X := w_st rfl
set_option maxRecDepth 100000 in
theorem s161_668 {l0 l1 l2 l3 : Value} {S : List Value} {h : ex_Hp} {X : Option Value → ex_Hp → Prop} : ex_W 161 668 [l0, l1, l2, l3] S h X ↔ ex_W 161 669 [l0, l1, l2, l3] (.int (nI 1) :: S) h X := w_st rfl
set_option maxRecDepth 100000 in
theorem s161_669 {l0 l1 l2 l3 : Value} {S : List Value} {h : ex_Hp} {X : Option Value → ex_Hp → Prop} {x z : Int32} : ex_W 161 669 [l0, l1, l2, l3] (.int z :: .int x :: S) h X ↔ ex_W 161 670 [l0, l1, l2, l3] (.int (x + z) :: S) h X := w_st rfl
set_option maxRecDepth 100000 in
theorem s161_670 {l0 l1 l2 l3 : Value} {S : List Value} {h : ex_Hp} {X : Option Value → ex_Hp → Prop} {o : Nat} {i : Int32} : ex_W 161 670 [l0, l1, l2, l3] (.int i :: .ref o :: S) h X ↔ ex_al (ex_g h o) i (fun z => ex_W 161 671 [l0, l1, l2, l3] (.int z :: S) h X) := w_iald rfl rfl
set_option maxRecDepth 100000 in
theorem s161_671 {l0 l1 l2 l3 : Value} {S : List Value} {h : ex_Hp} {X : Option Value → ex_Hp → Prop} {x0 : Nat} {x1 : Int32} : ex_W 161 671 [l0, l1, l2, l3] (.int x1 :: .ref x0 :: S) h X ↔ ex_cat S ≤ 8 ∧ ex_is (ex_g h x0) 7 ∧ ex_W 78 0 [.ref x0, .int x1] [] h (fun r h1 => ex_W 161 674 [l0, l1, l2, l3] (r.toList ++ S) h1 X) := w_cav (o := x0) (As := [.int x1]) (rest := S) rfl rfl rfl rfl rfl rfl rfl rfl rfl
set_option maxRecDepth 100000 in
theorem s161_674 {l0 l1 l3 : Value} {S : List Value} {h : ex_Hp} {X : Option Value → ex_Hp → Prop} {o : Nat} : ex_W 161 674 [l0, l1, .ref o, l3] S h X ↔ ex_W 161 675 [l0, l1, .ref o, l3] (.ref o :: S) h X := w_st rfl
set_option maxRecDepth 100000 in
theorem s161_675 {l1 l2 l3 : Value} {S : List Value} {h : ex_Hp} {X : Option Value → ex_Hp → Prop} {o : Nat} : ex_W 161 675 [.ref o, l1, l2, l3] S h X ↔ ex_W 161 676 [.ref o, l1, l2, l3] (.ref o :: S) h X := w_st rfl
set_option maxRecDepth 100000 in
theorem s161_676 {l0 l1 l2 : Value} {S : List Value} {h : ex_Hp} {X : Option Value → ex_Hp → Prop} {x : Int32} : ex_W 161 676 [l0, l1, l2, .int x] S h X ↔ ex_W 161 677 [l0, l1, l2, .int x] (.int x :: S) h X := w_st rfl
set_option maxRecDepth 100000 in
theorem s161_677 {l0 l1 l2 l3 : Value} {S : List Value} {h : ex_Hp} {X : Option Value → ex_Hp → Prop} : ex_W 161 677 [l0, l1, l2, l3] S h X ↔ ex_W 161 678 [l0, l1, l2, l3] (.int (nI 1) :: S) h X := w_st rfl
set_option maxRecDepth 100000 in
theorem s161_678 {l0 l1 l2 l3 : Value} {S : List Value} {h : ex_Hp} {X : Option Value → ex_Hp → Prop} {x z : Int32} : ex_W 161 678 [l0, l1, l2, l3] (.int z :: .int x :: S) h X ↔ ex_W 161 679 [l0, l1, l2, l3] (.int (x + z) :: S) h X := w_st rfl
set_option maxRecDepth 100000 in
theorem s161_679 {l0 l1 l2 l3 : Value} {S : List Value} {h : ex_Hp} {X : Option Value → ex_Hp → Prop} {o : Nat} {i : Int32} : ex_W 161 679 [l0, l1, l2, l3] (.int i :: .ref o :: S) h X ↔ ex_al (ex_g h o) i (fun z => ex_W 161 680 [l0, l1, l2, l3] (.int z :: S) h X) := w_iald rfl rfl
set_option maxRecDepth 100000 in
theorem s161_680 {l0 l1 l2 l3 : Value} {S : List Value} {h : ex_Hp} {X : Option Value → ex_Hp → Prop} {x0 : Nat} {x1 : Int32} : ex_W 161 680 [l0, l1, l2, l3] (.int x1 :: .ref x0 :: S) h X ↔ ex_cat S ≤ 8 ∧ ex_is (ex_g h x0) 8 ∧ ex_W 141 0 [.ref x0, .int x1] [] h (fun r h1 => ex_W 161 683 [l0, l1, l2, l3] (r.toList ++ S) h1 X) := w_cav (o := x0) (As := [.int x1]) (rest := S) rfl rfl rfl rfl rfl rfl rfl rfl rfl
set_option maxRecDepth 100000 in
theorem s161_683 {l0 l1 l2 l3 : Value} {S : List Value} {h : ex_Hp} {X : Option Value → ex_Hp → Prop} {x z : Int32} : ex_W 161 683 [l0, l1, l2, l3] (.int z :: .int x :: S) h X ↔ if x = z then ex_W 161 866 [l0, l1, l2, l3] S h X else ex_W 161 686 [l0, l1, l2, l3] S h X := (w_st rfl).trans (w_cmp (p := x = z) (by exact decide_eq_true_iff))
set_option maxRecDepth 100000 in
theorem s161_686 {l0 l1 l2 l3 : Value} {S : List Value} {h : ex_Hp} {X : Option Value → ex_Hp → Prop} : ex_W 161 686 [l0, l1, l2, l3] S h X ↔ ex_W 161 687 [l0, l1, l2, l3] (.int (nI 0) :: S) h X := w_st rfl
set_option maxRecDepth 100000 in
theorem s161_687 {l0 l1 l2 l3 : Value} {h : ex_Hp} {X : Option Value → ex_Hp → Prop} {x : Int32} : ex_W 161 687 [l0, l1, l2, l3] [.int x] h X ↔ (x = nI 0 ∨ x = nI 1) ∧ X (some (.int x)) h := w_rez rfl
set_option maxRecDepth 100000 in
theorem s161_688 {l0 l2 l3 : Value} {S : List Value} {h : ex_Hp} {X : Option Value → ex_Hp → Prop} {o : Nat} : ex_W 161 688 [l0, .ref o, l2, l3] S h X ↔ ex_W 161 689 [l0, .ref o, l2, l3] (.ref o :: S) h X := w_st rfl
set_option maxRecDepth 100000 in
theorem s161_689 {l1 l2 l3 : Value} {S : List Value} {h : ex_Hp} {X : Option Value → ex_Hp → Prop} {o : Nat} : ex_W 161 689 [.ref o, l1, l2, l3] S h X ↔ ex_W 161 690 [.ref o, l1, l2, l3] (.ref o :: S) h X := w_st rfl
set_option maxRecDepth 100000 in
theorem s161_690 {l0 l1 l2 : Value} {S : List Value} {h : ex_Hp} {X : Option Value → ex_Hp → Prop} {x : Int32} : ex_W 161 690 [l0, l1, l2, .int x] S h X ↔ ex_W 161 691 [l0, l1, l2, .int x] (.int x :: S) h X := w_st rfl
set_option maxRecDepth 100000 in
theorem s161_691 {l0 l1 l2 l3 : Value} {S : List Value} {h : ex_Hp} {X : Option Value → ex_Hp → Prop} : ex_W 161 691 [l0, l1, l2, l3] S h X ↔ ex_W 161 692 [l0, l1, l2, l3] (.int (nI 1) :: S) h X := w_st rfl
set_option maxRecDepth 100000 in
theorem s161_692 {l0 l1 l2 l3 : Value} {S : List Value} {h : ex_Hp} {X : Option Value → ex_Hp → Prop} {x z : Int32} : ex_W 161 692 [l0, l1, l2, l3] (.int z :: .int x :: S) h X ↔ ex_W 161 693 [l0, l1, l2, l3] (.int (x + z) :: S) h X := w_st rfl
set_option maxRecDepth 100000 in
theorem s161_693 {l0 l1 l2 l3 : Value} {S : List Value} {h : ex_Hp} {X : Option Value → ex_Hp → Prop} {o : Nat} {i : Int32} : ex_W 161 693 [l0, l1, l2, l3] (.int i :: .ref o :: S) h X ↔ ex_al (ex_g h o) i (fun z => ex_W 161 694 [l0, l1, l2, l3] (.int z :: S) h X) := w_iald rfl rfl
set_option maxRecDepth 100000 in
theorem s161_694 {l1 l2 l3 : Value} {S : List Value} {h : ex_Hp} {X : Option Value → ex_Hp → Prop} {o : Nat} : ex_W 161 694 [.ref o, l1, l2, l3] S h X ↔ ex_W 161 695 [.ref o, l1, l2, l3] (.ref o :: S) h X := w_st rfl
set_option maxRecDepth 100000 in
theorem s161_695 {l0 l1 l2 : Value} {S : List Value} {h : ex_Hp} {X : Option Value → ex_Hp → Prop} {x : Int32} : ex_W 161 695 [l0, l1, l2, .int x] S h X ↔ ex_W 161 696 [l0, l1, l2, .int x] (.int x :: S) h X := w_st rfl
set_option maxRecDepth 100000 in
theorem s161_696 {l0 l1 l2 l3 : Value} {S : List Value} {h : ex_Hp} {X : Option Value → ex_Hp → Prop} : ex_W 161 696 [l0, l1, l2, l3] S h X ↔ ex_W 161 697 [l0, l1, l2, l3] (.int (nI 2) :: S) h X := w_st rfl
set_option maxRecDepth 100000 in
theorem s161_697 {l0 l1 l2 l3 : Value} {S : List Value} {h : ex_Hp} {X : Option Value → ex_Hp → Prop} {x z : Int32} : ex_W 161 697 [l0, l1, l2, l3] (.int z :: .int x :: S) h X ↔ ex_W 161 698 [l0, l1, l2, l3] (.int (x + z) :: S) h X := w_st rfl
set_option maxRecDepth 100000 in
theorem s161_698 {l0 l1 l2 l3 : Value} {S : List Value} {h : ex_Hp} {X : Option Value → ex_Hp → Prop} {o : Nat} {i : Int32} : ex_W 161 698 [l0, l1, l2, l3] (.int i :: .ref o :: S) h X ↔ ex_al (ex_g h o) i (fun z => ex_W 161 699 [l0, l1, l2, l3] (.int z :: S) h X) := w_iald rfl rfl
set_option maxRecDepth 100000 in
theorem s161_699 {l0 l1 l2 l3 : Value} {S : List Value} {h : ex_Hp} {X : Option Value → ex_Hp → Prop} {x0 : Nat} {x1 : Int32} {x2 : Int32} : ex_W 161 699 [l0, l1, l2, l3] (.int x2 :: .int x1 :: .ref x0 :: S) h X ↔ ex_cat S ≤ 8 ∧ ex_is (ex_g h x0) 7 ∧ ex_W 79 0 [.ref x0, .int x1, .int x2] [] h (fun r h1 => ex_W 161 702 [l0, l1, l2, l3] (r.toList ++ S) h1 X) := w_cav (o := x0) (As := [.int x1, .int x2]) (rest := S) rfl rfl rfl rfl rfl rfl rfl rfl rfl
set_option maxRecDepth 100000 in
theorem s161_702 {l0 l1 l3 : Value} {S : List Value} {h : ex_Hp} {X : Option Value → ex_Hp → Prop} {o : Nat} : ex_W 161 702 [l0, l1, .ref o, l3] S h X ↔ ex_W 161 703 [l0, l1, .ref o, l3] (.ref o :: S) h X := w_st rfl
set_option maxRecDepth 100000 in
theorem s161_703 {l1 l2 l3 : Value} {S : List Value} {h : ex_Hp} {X : Option Value → ex_Hp → Prop} {o : Nat} : ex_W 161 703 [.ref o, l1, l2, l3] S h X ↔ ex_W 161 704 [.ref o, l1, l2, l3] (.ref o :: S) h X := w_st rfl
set_option maxRecDepth 100000 in
theorem s161_704 {l0 l1 l2 : Value} {S : List Value} {h : ex_Hp} {X : Option Value → ex_Hp → Prop} {x : Int32} : ex_W 161 704 [l0, l1, l2, .int x] S h X ↔ ex_W 161 705 [l0, l1, l2, .int x] (.int x :: S) h X := w_st rfl
set_option maxRecDepth 100000 in
theorem s161_705 {l0 l1 l2 l3 : Value} {S : List Value} {h : ex_Hp} {X : Option Value → ex_Hp → Prop} : ex_W 161 705 [l0, l1, l2, l3] S h X ↔ ex_W 161 706 [l0, l1, l2, l3] (.int (nI 1) :: S) h X := w_st rfl
set_option maxRecDepth 100000 in
theorem s161_706 {l0 l1 l2 l3 : Value} {S : List Value} {h : ex_Hp} {X : Option Value → ex_Hp → Prop} {x z : Int32} : ex_W 161 706 [l0, l1, l2, l3] (.int z :: .int x :: S) h X ↔ ex_W 161 707 [l0, l1, l2, l3] (.int (x + z) :: S) h X := w_st rfl
set_option maxRecDepth 100000 in
theorem s161_707 {l0 l1 l2 l3 : Value} {S : List Value} {h : ex_Hp} {X : Option Value → ex_Hp → Prop} {o : Nat} {i : Int32} : ex_W 161 707 [l0, l1, l2, l3] (.int i :: .ref o :: S) h X ↔ ex_al (ex_g h o) i (fun z => ex_W 161 708 [l0, l1, l2, l3] (.int z :: S) h X) := w_iald rfl rfl
set_option maxRecDepth 100000 in
theorem s161_708 {l1 l2 l3 : Value} {S : List Value} {h : ex_Hp} {X : Option Value → ex_Hp → Prop} {o : Nat} : ex_W 161 708 [.ref o, l1, l2, l3] S h X ↔ ex_W 161 709 [.ref o, l1, l2, l3] (.ref o :: S) h X := w_st rfl
set_option maxRecDepth 100000 in
theorem s161_709 {l0 l1 l2 : Value} {S : List Value} {h : ex_Hp} {X : Option Value → ex_Hp → Prop} {x : Int32} : ex_W 161 709 [l0, l1, l2, .int x] S h X ↔ ex_W 161 710 [l0, l1, l2, .int x] (.int x :: S) h X := w_st rfl
set_option maxRecDepth 100000 in
theorem s161_710 {l0 l1 l2 l3 : Value} {S : List Value} {h : ex_Hp} {X : Option Value → ex_Hp → Prop} : ex_W 161 710 [l0, l1, l2, l3] S h X ↔ ex_W 161 711 [l0, l1, l2, l3] (.int (nI 2) :: S) h X := w_st rfl
set_option maxRecDepth 100000 in
theorem s161_711 {l0 l1 l2 l3 : Value} {S : List Value} {h : ex_Hp} {X : Option Value → ex_Hp → Prop} {x z : Int32} : ex_W 161 711 [l0, l1, l2, l3] (.int z :: .int x :: S) h X ↔ ex_W 161 712 [l0, l1, l2, l3] (.int (x + z) :: S) h X := w_st rfl
set_option maxRecDepth 100000 in
theorem s161_712 {l0 l1 l2 l3 : Value} {S : List Value} {h : ex_Hp} {X : Option Value → ex_Hp → Prop} {o : Nat} {i : Int32} : ex_W 161 712 [l0, l1, l2, l3] (.int i :: .ref o :: S) h X ↔ ex_al (ex_g h o) i (fun z => ex_W 161 713 [l0, l1, l2, l3] (.int z :: S) h X) := w_iald rfl rfl
set_option maxRecDepth 100000 in
theorem s161_713 {l0 l1 l2 l3 : Value} {S : List Value} {h : ex_Hp} {X : Option Value → ex_Hp → Prop} {x0 : Nat} {x1 : Int32} {x2 : Int32} : ex_W 161 713 [l0, l1, l2, l3] (.int x2 :: .int x1 :: .ref x0 :: S) h X ↔ ex_cat S ≤ 8 ∧ ex_is (ex_g h x0) 8 ∧ ex_W 144 0 [.ref x0, .int x1, .int x2, oU] [] h (fun r h1 => ex_W 161 716 [l0, l1, l2, l3] (r.toList ++ S) h1 X) := w_cav (o := x0) (As := [.int x1, .int x2]) (rest := S) rfl rfl rfl rfl rfl rfl rfl rfl rfl
set_option maxRecDepth 100000 in
theorem s161_716 {l0 l1 l2 l3 : Value} {S : List Value} {h : ex_Hp} {X : Option Value → ex_Hp → Prop} {x z : Int32} : ex_W 161 716 [l0, l1, l2, l3] (.int z :: .int x :: S) h X ↔ if x = z then ex_W 161 866 [l0, l1, l2, l3] S h X else ex_W 161 719 [l0, l1, l2, l3] S h X := (w_st rfl).trans (w_cmp (p := x = z) (by exact decide_eq_true_iff))
set_option maxRecDepth 100000 in
theorem s161_719 {l0 l1 l2 l3 : Value} {S : List Value} {h : ex_Hp} {X : Option Value → ex_Hp → Prop} : ex_W 161 719 [l0, l1, l2, l3] S h X ↔ ex_W 161 720 [l0, l1, l2, l3] (.int (nI 0) :: S) h X := w_st rfl
set_option maxRecDepth 100000 in
theorem s161_720 {l0 l1 l2 l3 : Value} {h : ex_Hp} {X : Option Value → ex_Hp → Prop} {x : Int32} : ex_W 161 720 [l0, l1, l2, l3] [.int x] h X ↔ (x = nI 0 ∨ x = nI 1) ∧ X (some (.int x)) h := w_rez rfl
set_option maxRecDepth 100000 in
theorem s161_721 {l0 l2 l3 : Value} {S : List Value} {h : ex_Hp} {X : Option Value → ex_Hp → Prop} {o : Nat} : ex_W 161 721 [l0, .ref o, l2, l3] S h X ↔ ex_W 161 722 [l0, .ref o, l2, l3] (.ref o :: S) h X := w_st rfl
set_option maxRecDepth 100000 in
theorem s161_722 {l1 l2 l3 : Value} {S : List Value} {h : ex_Hp} {X : Option Value → ex_Hp → Prop} {o : Nat} : ex_W 161 722 [.ref o, l1, l2, l3] S h X ↔ ex_W 161 723 [.ref o, l1, l2, l3] (.ref o :: S) h X := w_st rfl
set_option maxRecDepth 100000 in
theorem s161_723 {l0 l1 l2 : Value} {S : List Value} {h : ex_Hp} {X : Option Value → ex_Hp → Prop} {x : Int32} : ex_W 161 723 [l0, l1, l2, .int x] S h X ↔ ex_W 161 724 [l0, l1, l2, .int x] (.int x :: S) h X := w_st rfl
set_option maxRecDepth 100000 in
theorem s161_724 {l0 l1 l2 l3 : Value} {S : List Value} {h : ex_Hp} {X : Option Value → ex_Hp → Prop} : ex_W 161 724 [l0, l1, l2, l3] S h X ↔ ex_W 161 725 [l0, l1, l2, l3] (.int (nI 1) :: S) h X := w_st rfl
set_option maxRecDepth 100000 in
theorem s161_725 {l0 l1 l2 l3 : Value} {S : List Value} {h : ex_Hp} {X : Option Value → ex_Hp → Prop} {x z : Int32} : ex_W 161 725 [l0, l1, l2, l3] (.int z :: .int x :: S) h X ↔ ex_W 161 726 [l0, l1, l2, l3] (.int (x + z) :: S) h X := w_st rfl
set_option maxRecDepth 100000 in
theorem s161_726 {l0 l1 l2 l3 : Value} {S : List Value} {h : ex_Hp} {X : Option Value → ex_Hp → Prop} {o : Nat} {i : Int32} : ex_W 161 726 [l0, l1, l2, l3] (.int i :: .ref o :: S) h X ↔ ex_al (ex_g h o) i (fun z => ex_W 161 727 [l0, l1, l2, l3] (.int z :: S) h X) := w_iald rfl rfl
set_option maxRecDepth 100000 in
theorem s161_727 {l1 l2 l3 : Value} {S : List Value} {h : ex_Hp} {X : Option Value → ex_Hp → Prop} {o : Nat} : ex_W 161 727 [.ref o, l1, l2, l3] S h X ↔ ex_W 161 728 [.ref o, l1, l2, l3] (.ref o :: S) h X := w_st rfl
set_option maxRecDepth 100000 in
theorem s161_728 {l0 l1 l2 : Value} {S : List Value} {h : ex_Hp} {X : Option Value → ex_Hp → Prop} {x : Int32} : ex_W 161 728 [l0, l1, l2, .int x] S h X ↔ ex_W 161 729 [l0, l1, l2, .int x] (.int x :: S) h X := w_st rfl
set_option maxRecDepth 100000 in
theorem s161_729 {l0 l1 l2 l3 : Value} {S : List Value} {h : ex_Hp} {X : Option Value → ex_Hp → Prop} : ex_W 161 729 [l0, l1, l2, l3] S h X ↔ ex_W 161 730 [l0, l1, l2, l3] (.int (nI 2) :: S) h X := w_st rfl
set_option maxRecDepth 100000 in
theorem s161_730 {l0 l1 l2 l3 : Value} {S : List Value} {h : ex_Hp} {X : Option Value → ex_Hp → Prop} {x z : Int32} : ex_W 161 730 [l0, l1, l2, l3] (.int z :: .int x :: S) h X ↔ ex_W 161 731 [l0, l1, l2, l3] (.int (x + z) :: S) h X := w_st rfl
set_option maxRecDepth 100000 in
theorem s161_731 {l0 l1 l2 l3 : Value} {S : List Value} {h : ex_Hp} {X : Option Value → ex_Hp → Prop} {o : Nat} {i : Int32} : ex_W 161 731 [l0, l1, l2, l3] (.int i :: .ref o :: S) h X ↔ ex_al (ex_g h o) i (fun z => ex_W 161 732 [l0, l1, l2, l3] (.int z :: S) h X) := w_iald rfl rfl
set_option maxRecDepth 100000 in
theorem s161_732 {l0 l1 l2 l3 : Value} {S : List Value} {h : ex_Hp} {X : Option Value → ex_Hp → Prop} {x0 : Nat} {x1 : Int32} {x2 : Int32} : ex_W 161 732 [l0, l1, l2, l3] (.int x2 :: .int x1 :: .ref x0 :: S) h X ↔ ex_cat S ≤ 8 ∧ ex_is (ex_g h x0) 7 ∧ ex_W 80 0 [.ref x0, .int x1, .int x2, oU] [] h (fun r h1 => ex_W 161 735 [l0, l1, l2, l3] (r.toList ++ S) h1 X) := w_cav (o := x0) (As := [.int x1, .int x2]) (rest := S) rfl rfl rfl rfl rfl rfl rfl rfl rfl
set_option maxRecDepth 100000 in
theorem s161_735 {l0 l1 l3 : Value} {S : List Value} {h : ex_Hp} {X : Option Value → ex_Hp → Prop} {o : Nat} : ex_W 161 735 [l0, l1, .ref o, l3] S h X ↔ ex_W 161 736 [l0, l1, .ref o, l3] (.ref o :: S) h X := w_st rfl
set_option maxRecDepth 100000 in
theorem s161_736 {l1 l2 l3 : Value} {S : List Value} {h : ex_Hp} {X : Option Value → ex_Hp → Prop} {o : Nat} : ex_W 161 736 [.ref o, l1, l2, l3] S h X ↔ ex_W 161 737 [.ref o, l1, l2, l3] (.ref o :: S) h X := w_st rfl
set_option maxRecDepth 100000 in
theorem s161_737 {l0 l1 l2 : Value} {S : List Value} {h : ex_Hp} {X : Option Value → ex_Hp → Prop} {x : Int32} : ex_W 161 737 [l0, l1, l2, .int x] S h X ↔ ex_W 161 738 [l0, l1, l2, .int x] (.int x :: S) h X := w_st rfl
set_option maxRecDepth 100000 in
theorem s161_738 {l0 l1 l2 l3 : Value} {S : List Value} {h : ex_Hp} {X : Option Value → ex_Hp → Prop} : ex_W 161 738 [l0, l1, l2, l3] S h X ↔ ex_W 161 739 [l0, l1, l2, l3] (.int (nI 1) :: S) h X := w_st rfl
set_option maxRecDepth 100000 in
theorem s161_739 {l0 l1 l2 l3 : Value} {S : List Value} {h : ex_Hp} {X : Option Value → ex_Hp → Prop} {x z : Int32} : ex_W 161 739 [l0, l1, l2, l3] (.int z :: .int x :: S) h X ↔ ex_W 161 740 [l0, l1, l2, l3] (.int (x + z) :: S) h X := w_st rfl
set_option maxRecDepth 100000 in
theorem s161_740 {l0 l1 l2 l3 : Value} {S : List Value} {h : ex_Hp} {X : Option Value → ex_Hp → Prop} {o : Nat} {i : Int32} : ex_W 161 740 [l0, l1, l2, l3] (.int i :: .ref o :: S) h X ↔ ex_al (ex_g h o) i (fun z => ex_W 161 741 [l0, l1, l2, l3] (.int z :: S) h X) := w_iald rfl rfl
set_option maxRecDepth 100000 in
theorem s161_741 {l1 l2 l3 : Value} {S : List Value} {h : ex_Hp} {X : Option Value → ex_Hp → Prop} {o : Nat} : ex_W 161 741 [.ref o, l1, l2, l3] S h X ↔ ex_W 161 742 [.ref o, l1, l2, l3] (.ref o :: S) h X := w_st rfl
set_option maxRecDepth 100000 in
theorem s161_742 {l0 l1 l2 : Value} {S : List Value} {h : ex_Hp} {X : Option Value → ex_Hp → Prop} {x : Int32} : ex_W 161 742 [l0, l1, l2, .int x] S h X ↔ ex_W 161 743 [l0, l1, l2, .int x] (.int x :: S) h X := w_st rfl
set_option maxRecDepth 100000 in
theorem s161_743 {l0 l1 l2 l3 : Value} {S : List Value} {h : ex_Hp} {X : Option Value → ex_Hp → Prop} : ex_W 161 743 [l0, l1, l2, l3] S h X ↔ ex_W 161 744 [l0, l1, l2, l3] (.int (nI 2) :: S) h X := w_st rfl
set_option maxRecDepth 100000 in
theorem s161_744 {l0 l1 l2 l3 : Value} {S : List Value} {h : ex_Hp} {X : Option Value → ex_Hp → Prop} {x z : Int32} : ex_W 161 744 [l0, l1, l2, l3] (.int z :: .int x :: S) h X ↔ ex_W 161 745 [l0, l1, l2, l3] (.int (x + z) :: S) h X := w_st rfl
set_option maxRecDepth 100000 in
theorem s161_745 {l0 l1 l2 l3 : Value} {S : List Value} {h : ex_Hp} {X : Option Value → ex_Hp → Prop} {o : Nat} {i : Int32} : ex_W 161 745 [l0, l1, l2, l3] (.int i :: .ref o :: S) h X ↔ ex_al (ex_g h o) i (fun z => ex_W 161 746 [l0, l1, l2, l3] (.int z :: S) h X) := w_iald rfl rfl
set_option maxRecDepth 100000 in
theorem s161_746 {l0 l1 l2 l3 : Value} {S : List Value} {h : ex_Hp} {X : Option Value → ex_Hp → Prop} {x0 : Nat} {x1 : Int32} {x2 : Int32} : ex_W 161 746 [l0, l1, l2, l3] (.int x2 :: .int x1 :: .ref x0 :: S) h X ↔ ex_cat S ≤ 8 ∧ ex_is (ex_g h x0) 8 ∧ ex_W 154 0 [.ref x0, .int x1, .int x2] [] h (fun r h1 => ex_W 161 749 [l0, l1, l2, l3] (r.toList ++ S) h1 X) := w_cav (o := x0) (As := [.int x1, .int x2]) (rest := S) rfl rfl rfl rfl rfl rfl rfl rfl rfl
set_option maxRecDepth 100000 in
theorem s161_749 {l0 l1 l2 l3 : Value} {S : List Value} {h : ex_Hp} {X : Option Value → ex_Hp → Prop} {x z : Int32} : ex_W 161 749 [l0, l1, l2, l3] (.int z :: .int x :: S) h X ↔ if x = z then ex_W 161 866 [l0, l1, l2, l3] S h X else ex_W 161 752 [l0, l1, l2, l3] S h X := (w_st rfl).trans (w_cmp (p := x = z) (by exact decide_eq_true_iff))
set_option maxRecDepth 100000 in
theorem s161_752 {l0 l1 l2 l3 : Value} {S : List Value} {h : ex_Hp} {X : Option Value → ex_Hp → Prop} : ex_W 161 752 [l0, l1, l2, l3] S h X ↔ ex_W 161 753 [l0, l1, l2, l3] (.int (nI 0) :: S) h X := w_st rfl
set_option maxRecDepth 100000 in
theorem s161_753 {l0 l1 l2 l3 : Value} {h : ex_Hp} {X : Option Value → ex_Hp → Prop} {x : Int32} : ex_W 161 753 [l0, l1, l2, l3] [.int x] h X ↔ (x = nI 0 ∨ x = nI 1) ∧ X (some (.int x)) h := w_rez rfl
set_option maxRecDepth 100000 in
theorem s161_754 {l0 l2 l3 : Value} {S : List Value} {h : ex_Hp} {X : Option Value → ex_Hp → Prop} {o : Nat} : ex_W 161 754 [l0, .ref o, l2, l3] S h X ↔ ex_W 161 755 [l0, .ref o, l2, l3] (.ref o :: S) h X := w_st rfl
set_option maxRecDepth 100000 in
theorem s161_755 {l1 l2 l3 : Value} {S : List Value} {h : ex_Hp} {X : Option Value → ex_Hp → Prop} {o : Nat} : ex_W 161 755 [.ref o, l1, l2, l3] S h X ↔ ex_W 161 756 [.ref o, l1, l2, l3] (.ref o :: S) h X := w_st rfl
set_option maxRecDepth 100000 in
theorem s161_756 {l0 l1 l2 : Value} {S : List Value} {h : ex_Hp} {X : Option Value → ex_Hp → Prop} {x : Int32} : ex_W 161 756 [l0, l1, l2, .int x] S h X ↔ ex_W 161 757 [l0, l1, l2, .int x] (.int x :: S) h X := w_st rfl
set_option maxRecDepth 100000 in
theorem s161_757 {l0 l1 l2 l3 : Value} {S : List Value} {h : ex_Hp} {X : Option Value → ex_Hp → Prop} : ex_W 161 757 [l0, l1, l2, l3] S h X ↔ ex_W 161 758 [l0, l1, l2, l3] (.int (nI 1) :: S) h X := w_st rfl
set_option maxRecDepth 100000 in
theorem s161_758 {l0 l1 l2 l3 : Value} {S : List Value} {h : ex_Hp} {X : Option Value → ex_Hp → Prop} {x z : Int32} : ex_W 161 758 [l0, l1, l2, l3] (.int z :: .int x :: S) h X ↔ ex_W 161 759 [l0, l1, l2, l3] (.int (x + z) :: S) h X := w_st rfl
set_option maxRecDepth 100000 in
theorem s161_759 {l0 l1 l2 l3 : Value} {S : List Value} {h : ex_Hp} {X : Option Value → ex_Hp → Prop} {o : Nat} {i : Int32} : ex_W 161 759 [l0, l1, l2, l3] (.int i :: .ref o :: S) h X ↔ ex_al (ex_g h o) i (fun z => ex_W 161 760 [l0, l1, l2, l3] (.int z :: S) h X) := w_iald rfl rfl
set_option maxRecDepth 100000 in
theorem s161_760 {l1 l2 l3 : Value} {S : List Value} {h : ex_Hp} {X : Option Value → ex_Hp → Prop} {o : Nat} : ex_W 161 760 [.ref o, l1, l2, l3] S h X ↔ ex_W 161 761 [.ref o, l1, l2, l3] (.ref o :: S) h X := w_st rfl
set_option maxRecDepth 100000 in
theorem s161_761 {l0 l1 l2 : Value} {S : List Value} {h : ex_Hp} {X : Option Value → ex_Hp → Prop} {x : Int32} : ex_W 161 761 [l0, l1, l2, .int x] S h X ↔ ex_W 161 762 [l0, l1, l2, .int x] (.int x :: S) h X := w_st rfl
set_option maxRecDepth 100000 in
theorem s161_762 {l0 l1 l2 l3 : Value} {S : List Value} {h : ex_Hp} {X : Option Value → ex_Hp → Prop} : ex_W 161 762 [l0, l1, l2, l3] S h X ↔ ex_W 161 763 [l0, l1, l2, l3] (.int (nI 2) :: S) h X := w_st rfl
set_option maxRecDepth 100000 in
theorem s161_763 {l0 l1 l2 l3 : Value} {S : List Value} {h : ex_Hp} {X : Option Value → ex_Hp → Prop} {x z : Int32} : ex_W 161 763 [l0, l1, l2, l3] (.int z :: .int x :: S) h X ↔ ex_W 161 764 [l0, l1, l2, l3] (.int (x + z) :: S) h X := w_st rfl
set_option maxRecDepth 100000 in
theorem s161_764 {l0 l1 l2 l3 : Value} {S : List Value} {h : ex_Hp} {X : Option Value → ex_Hp → Prop} {o : Nat} {i : Int32} : ex_W 161 764 [l0, l1, l2, l3] (.int i :: .ref o :: S) h X ↔ ex_al (ex_g h o) i (fun z => ex_W 161 765 [l0, l1, l2, l3] (.int z :: S) h X) := w_iald rfl rfl
set_option maxRecDepth 100000 in
theorem s161_765 {l1 l2 l3 : Value} {S : List Value} {h : ex_Hp} {X : Option Value → ex_Hp → Prop} {o : Nat} : ex_W 161 765 [.ref o, l1, l2, l3] S h X ↔ ex_W 161 766 [.ref o, l1, l2, l3] (.ref o :: S) h X := w_st rfl
set_option maxRecDepth 100000 in
theorem s161_766 {l0 l1 l2 : Value} {S : List Value} {h : ex_Hp} {X : Option Value → ex_Hp → Prop} {x : Int32} : ex_W 161 766 [l0, l1, l2, .int x] S h X ↔ ex_W 161 767 [l0, l1, l2, .int x] (.int x :: S) h X := w_st rfl
set_option maxRecDepth 100000 in
theorem s161_767 {l0 l1 l2 l3 : Value} {S : List Value} {h : ex_Hp} {X : Option Value → ex_Hp → Prop} : ex_W 161 767 [l0, l1, l2, l3] S h X ↔ ex_W 161 768 [l0, l1, l2, l3] (.int (nI 3) :: S) h X := w_st rfl
set_option maxRecDepth 100000 in
theorem s161_768 {l0 l1 l2 l3 : Value} {S : List Value} {h : ex_Hp} {X : Option Value → ex_Hp → Prop} {x z : Int32} : ex_W 161 768 [l0, l1, l2, l3] (.int z :: .int x :: S) h X ↔ ex_W 161 769 [l0, l1, l2, l3] (.int (x + z) :: S) h X := w_st rfl
set_option maxRecDepth 100000 in
theorem s161_769 {l0 l1 l2 l3 : Value} {S : List Value} {h : ex_Hp} {X : Option Value → ex_Hp → Prop} {o : Nat} {i : Int32} : ex_W 161 769 [l0, l1, l2, l3] (.int i :: .ref o :: S) h X ↔ ex_al (ex_g h o) i (fun z => ex_W 161 770 [l0, l1, l2, l3] (.int z :: S) h X) := w_iald rfl rfl
set_option maxRecDepth 100000 in
theorem s161_770 {l0 l1 l2 l3 : Value} {S : List Value} {h : ex_Hp} {X : Option Value → ex_Hp → Prop} {x0 : Nat} {x1 : Int32} {x2 : Int32} {x3 : Int32} : ex_W 161 770 [l0, l1, l2, l3] (.int x3 :: .int x2 :: .int x1 :: .ref x0 :: S) h X ↔ ex_cat S ≤ 8 ∧ ex_is (ex_g h x0) 7 ∧ ex_W 81 0 [.ref x0, .int x1, .int x2, .int x3, oU] [] h (fun r h1 => ex_W 161 773 [l0, l1, l2, l3] (r.toList ++ S) h1 X) := w_cav (o := x0) (As := [.int x1, .int x2, .int x3]) (rest := S) rfl rfl rfl rfl rfl rfl rfl rfl rfl
set_option maxRecDepth 100000 in
theorem s161_773 {l0 l1 l3 : Value} {S : List Value} {h : ex_Hp} {X : Option Value → ex_Hp → Prop} {o : Nat} : ex_W 161 773 [l0, l1, .ref o, l3] S h X ↔ ex_W 161 774 [l0, l1, .ref o, l3] (.ref o :: S) h X := w_st rfl
set_option maxRecDepth 100000 in
theorem s161_774 {l1 l2 l3 : Value} {S : List Value} {h : ex_Hp} {X : Option Value → ex_Hp → Prop} {o : Nat} : ex_W 161 774 [.ref o, l1, l2, l3] S h X ↔ ex_W 161 775 [.ref o, l1, l2, l3] (.ref o :: S) h X := w_st rfl
set_option maxRecDepth 100000 in
theorem s161_775 {l0 l1 l2 : Value} {S : List Value} {h : ex_Hp} {X : Option Value → ex_Hp → Prop} {x : Int32} : ex_W 161 775 [l0, l1, l2, .int x] S h X ↔ ex_W 161 776 [l0, l1, l2, .int x] (.int x :: S) h X := w_st rfl
set_option maxRecDepth 100000 in
theorem s161_776 {l0 l1 l2 l3 : Value} {S : List Value} {h : ex_Hp} {X : Option Value → ex_Hp → Prop} : ex_W 161 776 [l0, l1, l2, l3] S h X ↔ ex_W 161 777 [l0, l1, l2, l3] (.int (nI 1) :: S) h X := w_st rfl
set_option maxRecDepth 100000 in
theorem s161_777 {l0 l1 l2 l3 : Value} {S : List Value} {h : ex_Hp} {X : Option Value → ex_Hp → Prop} {x z : Int32} : ex_W 161 777 [l0, l1, l2, l3] (.int z :: .int x :: S) h X ↔ ex_W 161 778 [l0, l1, l2, l3] (.int (x + z) :: S) h X := w_st rfl
set_option maxRecDepth 100000 in
theorem s161_778 {l0 l1 l2 l3 : Value} {S : List Value} {h : ex_Hp} {X : Option Value → ex_Hp → Prop} {o : Nat} {i : Int32} : ex_W 161 778 [l0, l1, l2, l3] (.int i :: .ref o :: S) h X ↔ ex_al (ex_g h o) i (fun z => ex_W 161 779 [l0, l1, l2, l3] (.int z :: S) h X) := w_iald rfl rfl
set_option maxRecDepth 100000 in
theorem s161_779 {l1 l2 l3 : Value} {S : List Value} {h : ex_Hp} {X : Option Value → ex_Hp → Prop} {o : Nat} : ex_W 161 779 [.ref o, l1, l2, l3] S h X ↔ ex_W 161 780 [.ref o, l1, l2, l3] (.ref o :: S) h X := w_st rfl
set_option maxRecDepth 100000 in
theorem s161_780 {l0 l1 l2 : Value} {S : List Value} {h : ex_Hp} {X : Option Value → ex_Hp → Prop} {x : Int32} : ex_W 161 780 [l0, l1, l2, .int x] S h X ↔ ex_W 161 781 [l0, l1, l2, .int x] (.int x :: S) h X := w_st rfl
set_option maxRecDepth 100000 in
theorem s161_781 {l0 l1 l2 l3 : Value} {S : List Value} {h : ex_Hp} {X : Option Value → ex_Hp → Prop} : ex_W 161 781 [l0, l1, l2, l3] S h X ↔ ex_W 161 782 [l0, l1, l2, l3] (.int (nI 2) :: S) h X := w_st rfl
set_option maxRecDepth 100000 in
theorem s161_782 {l0 l1 l2 l3 : Value} {S : List Value} {h : ex_Hp} {X : Option Value → ex_Hp → Prop} {x z : Int32} : ex_W 161 782 [l0, l1, l2, l3] (.int z :: .int x :: S) h X ↔ ex_W 161 783 [l0, l1, l2, l3] (.int (x + z) :: S) h X := w_st rfl
set_option maxRecDepth 100000 in
theorem s161_783 {l0 l1 l2 l3 : Value} {S : List Value} {h : ex_Hp} {X : Option Value → ex_Hp → Prop} {o : Nat} {i : Int32} : ex_W 161 783 [l0, l1, l2, l3] (.int i :: .ref o :: S) h X ↔ ex_al (ex_g h o) i (fun z => ex_W 161 784 [l0, l1, l2, l3] (.int z :: S) h X) := w_iald rfl rfl
set_option maxRecDepth 100000 in
theorem s161_784 {l1 l2 l3 : Value} {S : List Value} {h : ex_Hp} {X : Option Value → ex_Hp → Prop} {o : Nat} : ex_W 161 784 [.ref o, l1, l2, l3] S h X ↔ ex_W 161 785 [.ref o, l1, l2, l3] (.ref o :: S) h X := w_st rfl
set_option maxRecDepth 100000 in
theorem s161_785 {l0 l1 l2 : Value} {S : List Value} {h : ex_Hp} {X : Option Value → ex_Hp → Prop} {x : Int32} : ex_W 161 785 [l0, l1, l2, .int x] S h X ↔ ex_W 161 786 [l0, l1, l2, .int x] (.int x :: S) h X := w_st rfl
set_option maxRecDepth 100000 in
theorem s161_786 {l0 l1 l2 l3 : Value} {S : List Value} {h : ex_Hp} {X : Option Value → ex_Hp → Prop} : ex_W 161 786 [l0, l1, l2, l3] S h X ↔ ex_W 161 787 [l0, l1, l2, l3] (.int (nI 3) :: S) h X := w_st rfl
set_option maxRecDepth 100000 in
theorem s161_787 {l0 l1 l2 l3 : Value} {S : List Value} {h : ex_Hp} {X : Option Value → ex_Hp → Prop} {x z : Int32} : ex_W 161 787 [l0, l1, l2, l3] (.int z :: .int x :: S) h X ↔ ex_W 161 788 [l0, l1, l2, l3] (.int (x + z) :: S) h X := w_st rfl
set_option maxRecDepth 100000 in
theorem s161_788 {l0 l1 l2 l3 : Value} {S : List Value} {h : ex_Hp} {X : Option Value → ex_Hp → Prop} {o : Nat} {i : Int32} : ex_W 161 788 [l0, l1, l2, l3] (.int i :: .ref o :: S) h X ↔ ex_al (ex_g h o) i (fun z => ex_W 161 789 [l0, l1, l2, l3] (.int z :: S) h X) := w_iald rfl rfl
set_option maxRecDepth 100000 in
theorem s161_789 {l0 l1 l2 l3 : Value} {S : List Value} {h : ex_Hp} {X : Option Value → ex_Hp → Prop} {x0 : Nat} {x1 : Int32} {x2 : Int32} {x3 : Int32} : ex_W 161 789 [l0, l1, l2, l3] (.int x3 :: .int x2 :: .int x1 :: .ref x0 :: S) h X ↔ ex_cat S ≤ 8 ∧ ex_is (ex_g h x0) 8 ∧ ex_W 155 0 [.ref x0, .int x1, .int x2, .int x3] [] h (fun r h1 => ex_W 161 792 [l0, l1, l2, l3] (r.toList ++ S) h1 X) := w_cav (o := x0) (As := [.int x1, .int x2, .int x3]) (rest := S) rfl rfl rfl rfl rfl rfl rfl rfl rfl
set_option maxRecDepth 100000 in
theorem s161_792 {l0 l1 l2 l3 : Value} {S : List Value} {h : ex_Hp} {X : Option Value → ex_Hp → Prop} {x z : Int32} : ex_W 161 792 [l0, l1, l2, l3] (.int z :: .int x :: S) h X ↔ if x = z then ex_W 161 866 [l0, l1, l2, l3] S h X else ex_W 161 795 [l0, l1, l2, l3] S h X := (w_st rfl).trans (w_cmp (p := x = z) (by exact decide_eq_true_iff))
set_option maxRecDepth 100000 in
theorem s161_795 {l0 l1 l2 l3 : Value} {S : List Value} {h : ex_Hp} {X : Option Value → ex_Hp → Prop} : ex_W 161 795 [l0, l1, l2, l3] S h X ↔ ex_W 161 796 [l0, l1, l2, l3] (.int (nI 0) :: S) h X := w_st rfl
set_option maxRecDepth 100000 in
theorem s161_796 {l0 l1 l2 l3 : Value} {h : ex_Hp} {X : Option Value → ex_Hp → Prop} {x : Int32} : ex_W 161 796 [l0, l1, l2, l3] [.int x] h X ↔ (x = nI 0 ∨ x = nI 1) ∧ X (some (.int x)) h := w_rez rfl
set_option maxRecDepth 100000 in
theorem s161_797 {l0 l2 l3 : Value} {S : List Value} {h : ex_Hp} {X : Option Value → ex_Hp → Prop} {o : Nat} : ex_W 161 797 [l0, .ref o, l2, l3] S h X ↔ ex_W 161 798 [l0, .ref o, l2, l3] (.ref o :: S) h X := w_st rfl
set_option maxRecDepth 100000 in
theorem s161_798 {l1 l2 l3 : Value} {S : List Value} {h : ex_Hp} {X : Option Value → ex_Hp → Prop} {o : Nat} : ex_W 161 798 [.ref o, l1, l2, l3] S h X ↔ ex_W 161 799 [.ref o, l1, l2, l3] (.ref o :: S) h X := w_st rfl
set_option maxRecDepth 100000 in
theorem s161_799 {l0 l1 l2 : Value} {S : List Value} {h : ex_Hp} {X : Option Value → ex_Hp → Prop} {x : Int32} : ex_W 161 799 [l0, l1, l2, .int x] S h X ↔ ex_W 161 800 [l0, l1, l2, .int x] (.int x :: S) h X := w_st rfl
set_option maxRecDepth 100000 in
theorem s161_800 {l0 l1 l2 l3 : Value} {S : List Value} {h : ex_Hp} {X : Option Value → ex_Hp → Prop} : ex_W 161 800 [l0, l1, l2, l3] S h X ↔ ex_W 161 801 [l0, l1, l2, l3] (.int (nI 1) :: S) h X := w_st rfl
set_option maxRecDepth 100000 in
theorem s161_801 {l0 l1 l2 l3 : Value} {S : List Value} {h : ex_Hp} {X : Option Value → ex_Hp → Prop} {x z : Int32} : ex_W 161 801 [l0, l1, l2, l3] (.int z :: .int x :: S) h X ↔ ex_W 161 802 [l0, l1, l2, l3] (.int (x + z) :: S) h X := w_st rfl
set_option maxRecDepth 100000 in
theorem s161_802 {l0 l1 l2 l3 : Value} {S : List Value} {h : ex_Hp} {X : Option Value → ex_Hp → Prop} {o : Nat} {i : Int32} : ex_W 161 802 [l0, l1, l2, l3] (.int i :: .ref o :: S) h X ↔ ex_al (ex_g h o) i (fun z => ex_W 161 803 [l0, l1, l2, l3] (.int z :: S) h X) := w_iald rfl rfl
set_option maxRecDepth 100000 in
theorem s161_803 {l0 l1 l2 l3 : Value} {S : List Value} {h : ex_Hp} {X : Option Value → ex_Hp → Prop} {x0 : Nat} {x1 : Int32} : ex_W 161 803 [l0, l1, l2, l3] (.int x1 :: .ref x0 :: S) h X ↔ ex_cat S ≤ 8 ∧ ex_is (ex_g h x0) 7 ∧ ex_W 82 0 [.ref x0, .int x1] [] h (fun r h1 => ex_W 161 806 [l0, l1, l2, l3] (r.toList ++ S) h1 X) := w_cav (o := x0) (As := [.int x1]) (rest := S) rfl rfl rfl rfl rfl rfl rfl rfl rfl
set_option maxRecDepth 100000 in
theorem s161_806 {l0 l1 l3 : Value} {S : List Value} {h : ex_Hp} {X : Option Value → ex_Hp → Prop} {o : Nat} : ex_W 161 806 [l0, l1, .ref o, l3] S h X ↔ ex_W 161 807 [l0, l1, .ref o, l3] (.ref o :: S) h X := w_st rfl
set_option maxRecDepth 100000 in
theorem s161_807 {l1 l2 l3 : Value} {S : List Value} {h : ex_Hp} {X : Option Value → ex_Hp → Prop} {o : Nat} : ex_W 161 807 [.ref o, l1, l2, l3] S h X ↔ ex_W 161 808 [.ref o, l1, l2, l3] (.ref o :: S) h X := w_st rfl
set_option maxRecDepth 100000 in
theorem s161_808 {l0 l1 l2 : Value} {S : List Value} {h : ex_Hp} {X : Option Value → ex_Hp → Prop} {x : Int32} : ex_W 161 808 [l0, l1, l2, .int x] S h X ↔ ex_W 161 809 [l0, l1, l2, .int x] (.int x :: S) h X := w_st rfl
set_option maxRecDepth 100000 in
theorem s161_809 {l0 l1 l2 l3 : Value} {S : List Value} {h : ex_Hp} {X : Option Value → ex_Hp → Prop} : ex_W 161 809 [l0, l1, l2, l3] S h X ↔ ex_W 161 810 [l0, l1, l2, l3] (.int (nI 1) :: S) h X := w_st rfl
set_option maxRecDepth 100000 in
theorem s161_810 {l0 l1 l2 l3 : Value} {S : List Value} {h : ex_Hp} {X : Option Value → ex_Hp → Prop} {x z : Int32} : ex_W 161 810 [l0, l1, l2, l3] (.int z :: .int x :: S) h X ↔ ex_W 161 811 [l0, l1, l2, l3] (.int (x + z) :: S) h X := w_st rfl
set_option maxRecDepth 100000 in
theorem s161_811 {l0 l1 l2 l3 : Value} {S : List Value} {h : ex_Hp} {X : Option Value → ex_Hp → Prop} {o : Nat} {i : Int32} : ex_W 161 811 [l0, l1, l2, l3] (.int i :: .ref o :: S) h X ↔ ex_al (ex_g h o) i (fun z => ex_W 161 812 [l0, l1, l2, l3] (.int z :: S) h X) := w_iald rfl rfl
set_option maxRecDepth 100000 in
theorem s161_812 {l0 l1 l2 l3 : Value} {S : List Value} {h : ex_Hp} {X : Option Value → ex_Hp → Prop} {x0 : Nat} {x1 : Int32} : ex_W 161 812 [l0, l1, l2, l3] (.int x1 :: .ref x0 :: S) h X ↔ ex_cat S ≤ 8 ∧ ex_is (ex_g h x0) 8 ∧ ex_W 156 0 [.ref x0, .int x1, oU] [] h (fun r h1 => ex_W 161 815 [l0, l1, l2, l3] (r.toList ++ S) h1 X) := w_cav (o := x0) (As := [.int x1]) (rest := S) rfl rfl rfl rfl rfl rfl rfl rfl rfl
set_option maxRecDepth 100000 in
theorem s161_815 {l0 l1 l2 l3 : Value} {S : List Value} {h : ex_Hp} {X : Option Value → ex_Hp → Prop} {x z : Int32} : ex_W 161 815 [l0, l1, l2, l3] (.int z :: .int x :: S) h X ↔ if x = z then ex_W 161 866 [l0, l1, l2, l3] S h X else ex_W 161 818 [l0, l1, l2, l3] S h X := (w_st rfl).trans (w_cmp (p := x = z) (by exact decide_eq_true_iff))
set_option maxRecDepth 100000 in
theorem s161_818 {l0 l1 l2 l3 : Value} {S : List Value} {h : ex_Hp} {X : Option Value → ex_Hp → Prop} : ex_W 161 818 [l0, l1, l2, l3] S h X ↔ ex_W 161 819 [l0, l1, l2, l3] (.int (nI 0) :: S) h X := w_st rfl
set_option maxRecDepth 100000 in
theorem s161_819 {l0 l1 l2 l3 : Value} {h : ex_Hp} {X : Option Value → ex_Hp → Prop} {x : Int32} : ex_W 161 819 [l0, l1, l2, l3] [.int x] h X ↔ (x = nI 0 ∨ x = nI 1) ∧ X (some (.int x)) h := w_rez rfl
set_option maxRecDepth 100000 in
theorem s161_820 {l0 l2 l3 : Value} {S : List Value} {h : ex_Hp} {X : Option Value → ex_Hp → Prop} {o : Nat} : ex_W 161 820 [l0, .ref o, l2, l3] S h X ↔ ex_W 161 821 [l0, .ref o, l2, l3] (.ref o :: S) h X := w_st rfl
set_option maxRecDepth 100000 in
theorem s161_821 {l1 l2 l3 : Value} {S : List Value} {h : ex_Hp} {X : Option Value → ex_Hp → Prop} {o : Nat} : ex_W 161 821 [.ref o, l1, l2, l3] S h X ↔ ex_W 161 822 [.ref o, l1, l2, l3] (.ref o :: S) h X := w_st rfl
set_option maxRecDepth 100000 in
theorem s161_822 {l0 l1 l2 : Value} {S : List Value} {h : ex_Hp} {X : Option Value → ex_Hp → Prop} {x : Int32} : ex_W 161 822 [l0, l1, l2, .int x] S h X ↔ ex_W 161 823 [l0, l1, l2, .int x] (.int x :: S) h X := w_st rfl
set_option maxRecDepth 100000 in
theorem s161_823 {l0 l1 l2 l3 : Value} {S : List Value} {h : ex_Hp} {X : Option Value → ex_Hp → Prop} : ex_W 161 823 [l0, l1, l2, l3] S h X ↔ ex_W 161 824 [l0, l1, l2, l3] (.int (nI 1) :: S) h X := w_st rfl
set_option maxRecDepth 100000 in
theorem s161_824 {l0 l1 l2 l3 : Value} {S : List Value} {h : ex_Hp} {X : Option Value → ex_Hp → Prop} {x z : Int32} : ex_W 161 824 [l0, l1, l2, l3] (.int z :: .int x :: S) h X ↔ ex_W 161 825 [l0, l1, l2, l3] (.int (x + z) :: S) h X := w_st rfl
set_option maxRecDepth 100000 in
theorem s161_825 {l0 l1 l2 l3 : Value} {S : List Value} {h : ex_Hp} {X : Option Value → ex_Hp → Prop} {o : Nat} {i : Int32} : ex_W 161 825 [l0, l1, l2, l3] (.int i :: .ref o :: S) h X ↔ ex_al (ex_g h o) i (fun z => ex_W 161 826 [l0, l1, l2, l3] (.int z :: S) h X) := w_iald rfl rfl
set_option maxRecDepth 100000 in
theorem s161_826 {l0 l1 l2 l3 : Value} {S : List Value} {h : ex_Hp} {X : Option Value → ex_Hp → Prop} {x0 : Nat} {x1 : Int32} : ex_W 161 826 [l0, l1, l2, l3] (.int x1 :: .ref x0 :: S) h X ↔ ex_cat S ≤ 8 ∧ ex_is (ex_g h x0) 7 ∧ ex_W 83 0 [.ref x0, .int x1] [] h (fun r h1 => ex_W 161 829 [l0, l1, l2, l3] (r.toList ++ S) h1 X) := w_cav (o := x0) (As := [.int x1]) (rest := S) rfl rfl rfl rfl rfl rfl rfl rfl rfl
set_option maxRecDepth 100000 in
theorem s161_829 {l0 l1 l3 : Value} {S : List Value} {h : ex_Hp} {X : Option Value → ex_Hp → Prop} {o : Nat} : ex_W 161 829 [l0, l1, .ref o, l3] S h X ↔ ex_W 161 830 [l0, l1, .ref o, l3] (.ref o :: S) h X := w_st rfl
set_option maxRecDepth 100000 in
theorem s161_830 {l1 l2 l3 : Value} {S : List Value} {h : ex_Hp} {X : Option Value → ex_Hp → Prop} {o : Nat} : ex_W 161 830 [.ref o, l1, l2, l3] S h X ↔ ex_W 161 831 [.ref o, l1, l2, l3] (.ref o :: S) h X := w_st rfl
set_option maxRecDepth 100000 in
theorem s161_831 {l0 l1 l2 : Value} {S : List Value} {h : ex_Hp} {X : Option Value → ex_Hp → Prop} {x : Int32} : ex_W 161 831 [l0, l1, l2, .int x] S h X ↔ ex_W 161 832 [l0, l1, l2, .int x] (.int x :: S) h X := w_st rfl
set_option maxRecDepth 100000 in
theorem s161_832 {l0 l1 l2 l3 : Value} {S : List Value} {h : ex_Hp} {X : Option Value → ex_Hp → Prop} : ex_W 161 832 [l0, l1, l2, l3] S h X ↔ ex_W 161 833 [l0, l1, l2, l3] (.int (nI 1) :: S) h X := w_st rfl
set_option maxRecDepth 100000 in
theorem s161_833 {l0 l1 l2 l3 : Value} {S : List Value} {h : ex_Hp} {X : Option Value → ex_Hp → Prop} {x z : Int32} : ex_W 161 833 [l0, l1, l2, l3] (.int z :: .int x :: S) h X ↔ ex_W 161 834 [l0, l1, l2, l3] (.int (x + z) :: S) h X := w_st rfl
set_option maxRecDepth 100000 in
theorem s161_834 {l0 l1 l2 l3 : Value} {S : List Value} {h : ex_Hp} {X : Option Value → ex_Hp → Prop} {o : Nat} {i : Int32} : ex_W 161 834 [l0, l1, l2, l3] (.int i :: .ref o :: S) h X ↔ ex_al (ex_g h o) i (fun z => ex_W 161 835 [l0, l1, l2, l3] (.int z :: S) h X) := w_iald rfl rfl
set_option maxRecDepth 100000 in
theorem s161_835 {l0 l1 l2 l3 : Value} {S : List Value} {h : ex_Hp} {X : Option Value → ex_Hp → Prop} {x0 : Nat} {x1 : Int32} : ex_W 161 835 [l0, l1, l2, l3] (.int x1 :: .ref x0 :: S) h X ↔ ex_cat S ≤ 8 ∧ ex_is (ex_g h x0) 8 ∧ ex_W 157 0 [.ref x0, .int x1, oU] [] h (fun r h1 => ex_W 161 838 [l0, l1, l2, l3] (r.toList ++ S) h1 X) := w_cav (o := x0) (As := [.int x1]) (rest := S) rfl rfl rfl rfl rfl rfl rfl rfl rfl
set_option maxRecDepth 100000 in
theorem s161_838 {l0 l1 l2 l3 : Value} {S : List Value} {h : ex_Hp} {X : Option Value → ex_Hp → Prop} {x z : Int32} : ex_W 161 838 [l0, l1, l2, l3] (.int z :: .int x :: S) h X ↔ if x = z then ex_W 161 866 [l0, l1, l2, l3] S h X else ex_W 161 841 [l0, l1, l2, l3] S h X := (w_st rfl).trans (w_cmp (p := x = z) (by exact decide_eq_true_iff))
set_option maxRecDepth 100000 in
theorem s161_841 {l0 l1 l2 l3 : Value} {S : List Value} {h : ex_Hp} {X : Option Value → ex_Hp → Prop} : ex_W 161 841 [l0, l1, l2, l3] S h X ↔ ex_W 161 842 [l0, l1, l2, l3] (.int (nI 0) :: S) h X := w_st rfl
set_option maxRecDepth 100000 in
theorem s161_842 {l0 l1 l2 l3 : Value} {h : ex_Hp} {X : Option Value → ex_Hp → Prop} {x : Int32} : ex_W 161 842 [l0, l1, l2, l3] [.int x] h X ↔ (x = nI 0 ∨ x = nI 1) ∧ X (some (.int x)) h := w_rez rfl
set_option maxRecDepth 100000 in
theorem s161_843 {l0 l2 l3 : Value} {S : List Value} {h : ex_Hp} {X : Option Value → ex_Hp → Prop} {o : Nat} : ex_W 161 843 [l0, .ref o, l2, l3] S h X ↔ ex_W 161 844 [l0, .ref o, l2, l3] (.ref o :: S) h X := w_st rfl
set_option maxRecDepth 100000 in
theorem s161_844 {l1 l2 l3 : Value} {S : List Value} {h : ex_Hp} {X : Option Value → ex_Hp → Prop} {o : Nat} : ex_W 161 844 [.ref o, l1, l2, l3] S h X ↔ ex_W 161 845 [.ref o, l1, l2, l3] (.ref o :: S) h X := w_st rfl
set_option maxRecDepth 100000 in
theorem s161_845 {l0 l1 l2 : Value} {S : List Value} {h : ex_Hp} {X : Option Value → ex_Hp → Prop} {x : Int32} : ex_W 161 845 [l0, l1, l2, .int x] S h X ↔ ex_W 161 846 [l0, l1, l2, .int x] (.int x :: S) h X := w_st rfl
set_option maxRecDepth 100000 in
theorem s161_846 {l0 l1 l2 l3 : Value} {S : List Value} {h : ex_Hp} {X : Option Value → ex_Hp → Prop} : ex_W 161 846 [l0, l1, l2, l3] S h X ↔ ex_W 161 847 [l0, l1, l2, l3] (.int (nI 1) :: S) h X := w_st rfl
set_option maxRecDepth 100000 in
theorem s161_847 {l0 l1 l2 l3 : Value} {S : List Value} {h : ex_Hp} {X : Option Value → ex_Hp → Prop} {x z : Int32} : ex_W 161 847 [l0, l1, l2, l3] (.int z :: .int x :: S) h X ↔ ex_W 161 848 [l0, l1, l2, l3] (.int (x + z) :: S) h X := w_st rfl
set_option maxRecDepth 100000 in
theorem s161_848 {l0 l1 l2 l3 : Value} {S : List Value} {h : ex_Hp} {X : Option Value → ex_Hp → Prop} {o : Nat} {i : Int32} : ex_W 161 848 [l0, l1, l2, l3] (.int i :: .ref o :: S) h X ↔ ex_al (ex_g h o) i (fun z => ex_W 161 849 [l0, l1, l2, l3] (.int z :: S) h X) := w_iald rfl rfl
set_option maxRecDepth 100000 in
theorem s161_849 {l0 l1 l2 l3 : Value} {S : List Value} {h : ex_Hp} {X : Option Value → ex_Hp → Prop} {x0 : Nat} {x1 : Int32} : ex_W 161 849 [l0, l1, l2, l3] (.int x1 :: .ref x0 :: S) h X ↔ ex_cat S ≤ 8 ∧ ex_is (ex_g h x0) 7 ∧ ex_W 84 0 [.ref x0, .int x1] [] h (fun r h1 => ex_W 161 852 [l0, l1, l2, l3] (r.toList ++ S) h1 X) := w_cav (o := x0) (As := [.int x1]) (rest := S) rfl rfl rfl rfl rfl rfl rfl rfl rfl
set_option maxRecDepth 100000 in
theorem s161_852 {l0 l1 l3 : Value} {S : List Value} {h : ex_Hp} {X : Option Value → ex_Hp → Prop} {o : Nat} : ex_W 161 852 [l0, l1, .ref o, l3] S h X ↔ ex_W 161 853 [l0, l1, .ref o, l3] (.ref o :: S) h X := w_st rfl
set_option maxRecDepth 100000 in
theorem s161_853 {l1 l2 l3 : Value} {S : List Value} {h : ex_Hp} {X : Option Value → ex_Hp → Prop} {o : Nat} : ex_W 161 853 [.ref o, l1, l2, l3] S h X ↔ ex_W 161 854 [.ref o, l1, l2, l3] (.ref o :: S) h X := w_st rfl
set_option maxRecDepth 100000 in
theorem s161_854 {l0 l1 l2 : Value} {S : List Value} {h : ex_Hp} {X : Option Value → ex_Hp → Prop} {x : Int32} : ex_W 161 854 [l0, l1, l2, .int x] S h X ↔ ex_W 161 855 [l0, l1, l2, .int x] (.int x :: S) h X := w_st rfl
set_option maxRecDepth 100000 in
theorem s161_855 {l0 l1 l2 l3 : Value} {S : List Value} {h : ex_Hp} {X : Option Value → ex_Hp → Prop} : ex_W 161 855 [l0, l1, l2, l3] S h X ↔ ex_W 161 856 [l0, l1, l2, l3] (.int (nI 1) :: S) h X := w_st rfl
set_option maxRecDepth 100000 in
theorem s161_856 {l0 l1 l2 l3 : Value} {S : List Value} {h : ex_Hp} {X : Option Value → ex_Hp → Prop} {x z : Int32} : ex_W 161 856 [l0, l1, l2, l3] (.int z :: .int x :: S) h X ↔ ex_W 161 857 [l0, l1, l2, l3] (.int (x + z) :: S) h X := w_st rfl
set_option maxRecDepth 100000 in
theorem s161_857 {l0 l1 l2 l3 : Value} {S : List Value} {h : ex_Hp} {X : Option Value → ex_Hp → Prop} {o : Nat} {i : Int32} : ex_W 161 857 [l0, l1, l2, l3] (.int i :: .ref o :: S) h X ↔ ex_al (ex_g h o) i (fun z => ex_W 161 858 [l0, l1, l2, l3] (.int z :: S) h X) := w_iald rfl rfl
set_option maxRecDepth 100000 in
theorem s161_858 {l0 l1 l2 l3 : Value} {S : List Value} {h : ex_Hp} {X : Option Value → ex_Hp → Prop} {x0 : Nat} {x1 : Int32} : ex_W 161 858 [l0, l1, l2, l3] (.int x1 :: .ref x0 :: S) h X ↔ ex_cat S ≤ 8 ∧ ex_is (ex_g h x0) 8 ∧ ex_W 158 0 [.ref x0, .int x1] [] h (fun r h1 => ex_W 161 861 [l0, l1, l2, l3] (r.toList ++ S) h1 X) := w_cav (o := x0) (As := [.int x1]) (rest := S) rfl rfl rfl rfl rfl rfl rfl rfl rfl
set_option maxRecDepth 100000 in
theorem s161_861 {l0 l1 l2 l3 : Value} {S : List Value} {h : ex_Hp} {X : Option Value → ex_Hp → Prop} {x z : Int32} : ex_W 161 861 [l0, l1, l2, l3] (.int z :: .int x :: S) h X ↔ if x = z then ex_W 161 866 [l0, l1, l2, l3] S h X else ex_W 161 864 [l0, l1, l2, l3] S h X := (w_st rfl).trans (w_cmp (p := x = z) (by exact decide_eq_true_iff))
set_option maxRecDepth 100000 in
theorem s161_864 {l0 l1 l2 l3 : Value} {S : List Value} {h : ex_Hp} {X : Option Value → ex_Hp → Prop} : ex_W 161 864 [l0, l1, l2, l3] S h X ↔ ex_W 161 865 [l0, l1, l2, l3] (.int (nI 0) :: S) h X := w_st rfl
set_option maxRecDepth 100000 in
theorem s161_865 {l0 l1 l2 l3 : Value} {h : ex_Hp} {X : Option Value → ex_Hp → Prop} {x : Int32} : ex_W 161 865 [l0, l1, l2, l3] [.int x] h X ↔ (x = nI 0 ∨ x = nI 1) ∧ X (some (.int x)) h := w_rez rfl
set_option maxRecDepth 100000 in
theorem s161_866 {l0 l1 l2 : Value} {S : List Value} {h : ex_Hp} {X : Option Value → ex_Hp → Prop} {x : Int32} : ex_W 161 866 [l0, l1, l2, .int x] S h X ↔ ex_W 161 869 [l0, l1, l2, .int (x + (nI 5))] S h X := w_st rfl
set_option maxRecDepth 100000 in
theorem s161_869 {l0 l1 l2 l3 : Value} {S : List Value} {h : ex_Hp} {X : Option Value → ex_Hp → Prop} : ex_W 161 869 [l0, l1, l2, l3] S h X ↔ ex_W 161 18 [l0, l1, l2, l3] S h X := w_st rfl
set_option maxRecDepth 100000 in
theorem s161_872 {l0 l1 l2 l3 : Value} {S : List Value} {h : ex_Hp} {X : Option Value → ex_Hp → Prop} : ex_W 161 872 [l0, l1, l2, l3] S h X ↔ ex_W 161 873 [l0, l1, l2, l3] (.int (nI 1) :: S) h X := w_st rfl
set_option maxRecDepth 100000 in
theorem s161_873 {l0 l1 l2 l3 : Value} {h : ex_Hp} {X : Option Value → ex_Hp → Prop} {x : Int32} : ex_W 161 873 [l0, l1, l2, l3] [.int x] h X ↔ (x = nI 0 ∨ x = nI 1) ∧ X (some (.int x)) h := w_rez rfl
