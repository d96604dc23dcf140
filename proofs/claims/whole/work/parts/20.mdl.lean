/-! THE REFERENCE in the heap: its object at M, its arrays behind it; A k is what the k-th of them holds, A 0 its numbers (said, diagrams, halves, rank, determinant). -/
def mLen (k : Nat) : Nat := ([0, 213, 426, 2, 24, 420, 1024, 1764, 1764, 10, 10, 5, 42, 42, 42, 42, 42, 42, 42, 42, 60, 5, 144] : List Nat).getD k 0
def mArr (k : Nat) (f : Nat → Int32) : ex_AC := if k = 3 ∨ k = 11 then cZ (mLen k) f else cI (mLen k) f
def mObj (M : Nat) (A : Nat → Nat → Int32) : ex_AC := cO 8 [.ref (M + 1), .ref (M + 2), .ref (M + 3), .ref (M + 4), .int (A 0 0), .ref (M + 5), .ref (M + 6), .int (A 0 1), .ref (M + 7), .ref (M + 8), .ref (M + 9), .ref (M + 10), .ref (M + 11), .ref (M + 12), .ref (M + 13), .ref (M + 14), .ref (M + 15), .ref (M + 16), .ref (M + 17), .ref (M + 18), .ref (M + 19), .ref (M + 20), .int (A 0 2), .ref (M + 21), .ref (M + 22), .int (A 0 3), .int (A 0 4)]
def mdl (M : Nat) (A : Nat → Nat → Int32) (g : ex_Hp) : ex_Hp := (g.1, g.2.1, fun q => if q = M then some (mObj M A) else if M < q ∧ q ≤ M + 22 then some (mArr (q - M) (A (q - M))) else g.2.2 q)
def ua (A : Nat → Nat → Int32) (k : Nat) (f : Nat → Int32) : Nat → Nat → Int32 := fun q => if q = k then f else A q
section MDL
variable {M : Nat} {A : Nat → Nat → Int32} {g : ex_Hp} {f : Nat → Int32}
theorem ua_s {k : Nat} : ua A k f k = f := by simp [ua]
theorem ua_n {k q : Nat} (h : ¬ q = k) : ua A k f q = A q := by simp [ua, h]
theorem ua_ua {k : Nat} {f2 : Nat → Int32} : ua (ua A k f) k f2 = ua A k f2 := by
  funext q
  by_cases h : q = k <;> simp [ua, h]
theorem ua_c {k l : Nat} {f2 : Nat → Int32} (h : ¬ k = l) : ua (ua A k f) l f2 = ua (ua A l f2) k f := by
  funext q
  by_cases h1 : q = k
  · subst h1
    simp [ua, h]
  · simp [ua, h1]
theorem ua_id {k : Nat} : ua A k (A k) = A := by
  funext q
  by_cases h : q = k
  · subst h; simp [ua]
  · simp [ua, h]
theorem mg_0 : ex_g (mdl M A g) M = some (mObj M A) := by simp [ex_g, mdl]
theorem mg_k {k : Nat} (h1 : 1 ≤ k) (h2 : k ≤ 22) : ex_g (mdl M A g) (M + k) = some (mArr k (A k)) := by
  simp only [ex_g, mdl]
  rw [if_neg (by omega), if_pos (by omega), show M + k - M = k by omega]
theorem mg_n {q : Nat} (h : q < M ∨ M + 22 < q) : ex_g (mdl M A g) q = ex_g g q := by
  simp only [ex_g, mdl]
  rw [if_neg (by omega), if_neg (by omega)]
theorem ms_k {k : Nat} (h1 : 1 ≤ k) (h2 : k ≤ 22) : ex_set (mdl M A g) (M + k) (mArr k f) = mdl M (ua A k f) g := by
  simp only [ex_set, mdl]
  refine congrArg (Prod.mk _) (congrArg (Prod.mk _) (funext fun q => ?_))
  by_cases hq : q = M + k
  · subst hq
    rw [if_pos rfl, if_neg (by omega), if_pos (by omega), show M + k - M = k by omega, ua_s]
  · rw [if_neg hq]
    by_cases hM : q = M
    · rw [if_pos hM, if_pos hM]
      simp only [mObj, ua_n (show ¬ 0 = k by omega)]
    · rw [if_neg hM, if_neg hM]
      by_cases hr : M < q ∧ q ≤ M + 22
      · rw [if_pos hr, if_pos hr, ua_n (by omega)]
      · rw [if_neg hr, if_neg hr]
theorem ms_n {q : Nat} {c : ex_AC} (h : q < M ∨ M + 22 < q) : ex_set (mdl M A g) q c = mdl M A (ex_set g q c) := by
  simp only [ex_set, mdl]
  refine congrArg (Prod.mk _) (congrArg (Prod.mk _) (funext fun z => ?_))
  by_cases hz : z = q
  · subst hz
    rw [if_pos rfl, if_neg (by omega), if_neg (by omega), if_pos rfl]
  · simp only [if_neg hz]
theorem mis : ex_is (ex_g (mdl M A g) M) 8 = True := by
  rw [mg_0]
  exact eq_true rfl
theorem ms_0 {B : Nat → Nat → Int32} (h : ∀ k, 1 ≤ k → B k = A k) : ex_set (mdl M A g) M (mObj M B) = mdl M B g := by
  simp only [ex_set, mdl]
  refine congrArg (Prod.mk _) (congrArg (Prod.mk _) (funext fun q => ?_))
  by_cases hM : q = M
  · rw [if_pos hM, if_pos hM]
  · rw [if_neg hM, if_neg hM, if_neg hM]
    by_cases hr : M < q ∧ q ≤ M + 22
    · rw [if_pos hr, if_pos hr, h _ (by omega)]
    · rw [if_neg hr, if_neg hr]
theorem mg1 : ex_g (mdl M A g) (M + 1) = some (cI 213 (A 1)) := mg_k (by decide) (by decide)
theorem ms1 : ex_set (mdl M A g) (M + 1) (cI 213 f) = mdl M (ua A 1 f) g := ms_k (by decide) (by decide)
theorem mg2 : ex_g (mdl M A g) (M + 2) = some (cI 426 (A 2)) := mg_k (by decide) (by decide)
theorem ms2 : ex_set (mdl M A g) (M + 2) (cI 426 f) = mdl M (ua A 2 f) g := ms_k (by decide) (by decide)
theorem mg3 : ex_g (mdl M A g) (M + 3) = some (cZ 2 (A 3)) := mg_k (by decide) (by decide)
theorem ms3 : ex_set (mdl M A g) (M + 3) (cZ 2 f) = mdl M (ua A 3 f) g := ms_k (by decide) (by decide)
theorem mg4 : ex_g (mdl M A g) (M + 4) = some (cI 24 (A 4)) := mg_k (by decide) (by decide)
theorem ms4 : ex_set (mdl M A g) (M + 4) (cI 24 f) = mdl M (ua A 4 f) g := ms_k (by decide) (by decide)
theorem mg5 : ex_g (mdl M A g) (M + 5) = some (cI 420 (A 5)) := mg_k (by decide) (by decide)
theorem ms5 : ex_set (mdl M A g) (M + 5) (cI 420 f) = mdl M (ua A 5 f) g := ms_k (by decide) (by decide)
theorem mg6 : ex_g (mdl M A g) (M + 6) = some (cI 1024 (A 6)) := mg_k (by decide) (by decide)
theorem ms6 : ex_set (mdl M A g) (M + 6) (cI 1024 f) = mdl M (ua A 6 f) g := ms_k (by decide) (by decide)
theorem mg7 : ex_g (mdl M A g) (M + 7) = some (cI 1764 (A 7)) := mg_k (by decide) (by decide)
theorem ms7 : ex_set (mdl M A g) (M + 7) (cI 1764 f) = mdl M (ua A 7 f) g := ms_k (by decide) (by decide)
theorem mg8 : ex_g (mdl M A g) (M + 8) = some (cI 1764 (A 8)) := mg_k (by decide) (by decide)
theorem ms8 : ex_set (mdl M A g) (M + 8) (cI 1764 f) = mdl M (ua A 8 f) g := ms_k (by decide) (by decide)
theorem mg9 : ex_g (mdl M A g) (M + 9) = some (cI 10 (A 9)) := mg_k (by decide) (by decide)
theorem ms9 : ex_set (mdl M A g) (M + 9) (cI 10 f) = mdl M (ua A 9 f) g := ms_k (by decide) (by decide)
theorem mg10 : ex_g (mdl M A g) (M + 10) = some (cI 10 (A 10)) := mg_k (by decide) (by decide)
theorem ms10 : ex_set (mdl M A g) (M + 10) (cI 10 f) = mdl M (ua A 10 f) g := ms_k (by decide) (by decide)
theorem mg11 : ex_g (mdl M A g) (M + 11) = some (cZ 5 (A 11)) := mg_k (by decide) (by decide)
theorem ms11 : ex_set (mdl M A g) (M + 11) (cZ 5 f) = mdl M (ua A 11 f) g := ms_k (by decide) (by decide)
theorem mg12 : ex_g (mdl M A g) (M + 12) = some (cI 42 (A 12)) := mg_k (by decide) (by decide)
theorem ms12 : ex_set (mdl M A g) (M + 12) (cI 42 f) = mdl M (ua A 12 f) g := ms_k (by decide) (by decide)
theorem mg13 : ex_g (mdl M A g) (M + 13) = some (cI 42 (A 13)) := mg_k (by decide) (by decide)
theorem ms13 : ex_set (mdl M A g) (M + 13) (cI 42 f) = mdl M (ua A 13 f) g := ms_k (by decide) (by decide)
theorem mg14 : ex_g (mdl M A g) (M + 14) = some (cI 42 (A 14)) := mg_k (by decide) (by decide)
theorem ms14 : ex_set (mdl M A g) (M + 14) (cI 42 f) = mdl M (ua A 14 f) g := ms_k (by decide) (by decide)
theorem mg15 : ex_g (mdl M A g) (M + 15) = some (cI 42 (A 15)) := mg_k (by decide) (by decide)
theorem ms15 : ex_set (mdl M A g) (M + 15) (cI 42 f) = mdl M (ua A 15 f) g := ms_k (by decide) (by decide)
theorem mg16 : ex_g (mdl M A g) (M + 16) = some (cI 42 (A 16)) := mg_k (by decide) (by decide)
theorem ms16 : ex_set (mdl M A g) (M + 16) (cI 42 f) = mdl M (ua A 16 f) g := ms_k (by decide) (by decide)
theorem mg17 : ex_g (mdl M A g) (M + 17) = some (cI 42 (A 17)) := mg_k (by decide) (by decide)
theorem ms17 : ex_set (mdl M A g) (M + 17) (cI 42 f) = mdl M (ua A 17 f) g := ms_k (by decide) (by decide)
theorem mg18 : ex_g (mdl M A g) (M + 18) = some (cI 42 (A 18)) := mg_k (by decide) (by decide)
theorem ms18 : ex_set (mdl M A g) (M + 18) (cI 42 f) = mdl M (ua A 18 f) g := ms_k (by decide) (by decide)
theorem mg19 : ex_g (mdl M A g) (M + 19) = some (cI 42 (A 19)) := mg_k (by decide) (by decide)
theorem ms19 : ex_set (mdl M A g) (M + 19) (cI 42 f) = mdl M (ua A 19 f) g := ms_k (by decide) (by decide)
theorem mg20 : ex_g (mdl M A g) (M + 20) = some (cI 60 (A 20)) := mg_k (by decide) (by decide)
theorem ms20 : ex_set (mdl M A g) (M + 20) (cI 60 f) = mdl M (ua A 20 f) g := ms_k (by decide) (by decide)
theorem mg21 : ex_g (mdl M A g) (M + 21) = some (cI 5 (A 21)) := mg_k (by decide) (by decide)
theorem ms21 : ex_set (mdl M A g) (M + 21) (cI 5 f) = mdl M (ua A 21 f) g := ms_k (by decide) (by decide)
theorem mg22 : ex_g (mdl M A g) (M + 22) = some (cI 144 (A 22)) := mg_k (by decide) (by decide)
theorem ms22 : ex_set (mdl M A g) (M + 22) (cI 144 f) = mdl M (ua A 22 f) g := ms_k (by decide) (by decide)
theorem mf0 {F : Value → Prop} : ex_gf (ex_g (mdl M A g) M) 8 0 F = F (.ref (M + 1)) := by rw [mg_0]; rfl
theorem mf1 {F : Value → Prop} : ex_gf (ex_g (mdl M A g) M) 8 1 F = F (.ref (M + 2)) := by rw [mg_0]; rfl
theorem mf2 {F : Value → Prop} : ex_gf (ex_g (mdl M A g) M) 8 2 F = F (.ref (M + 3)) := by rw [mg_0]; rfl
theorem mf3 {F : Value → Prop} : ex_gf (ex_g (mdl M A g) M) 8 3 F = F (.ref (M + 4)) := by rw [mg_0]; rfl
theorem mf4 {F : Value → Prop} : ex_gf (ex_g (mdl M A g) M) 8 4 F = F (.int (A 0 0)) := by rw [mg_0]; rfl
theorem mp4 {x : Int32} {F : ex_AC → Prop} : ex_pf (ex_g (mdl M A g) M) 8 4 (.int x) F = F (mObj M (ua A 0 (upd (A 0) 0 x))) := by rw [mg_0]; rfl
theorem mq4 {x : Int32} : ex_set (mdl M A g) M (mObj M (ua A 0 (upd (A 0) 0 x))) = mdl M (ua A 0 (upd (A 0) 0 x)) g := ms_0 (fun k hk => ua_n (by omega))
theorem mf5 {F : Value → Prop} : ex_gf (ex_g (mdl M A g) M) 8 5 F = F (.ref (M + 5)) := by rw [mg_0]; rfl
theorem mf6 {F : Value → Prop} : ex_gf (ex_g (mdl M A g) M) 8 6 F = F (.ref (M + 6)) := by rw [mg_0]; rfl
theorem mf7 {F : Value → Prop} : ex_gf (ex_g (mdl M A g) M) 8 7 F = F (.int (A 0 1)) := by rw [mg_0]; rfl
theorem mp7 {x : Int32} {F : ex_AC → Prop} : ex_pf (ex_g (mdl M A g) M) 8 7 (.int x) F = F (mObj M (ua A 0 (upd (A 0) 1 x))) := by rw [mg_0]; rfl
theorem mq7 {x : Int32} : ex_set (mdl M A g) M (mObj M (ua A 0 (upd (A 0) 1 x))) = mdl M (ua A 0 (upd (A 0) 1 x)) g := ms_0 (fun k hk => ua_n (by omega))
theorem mf8 {F : Value → Prop} : ex_gf (ex_g (mdl M A g) M) 8 8 F = F (.ref (M + 7)) := by rw [mg_0]; rfl
theorem mf9 {F : Value → Prop} : ex_gf (ex_g (mdl M A g) M) 8 9 F = F (.ref (M + 8)) := by rw [mg_0]; rfl
theorem mf10 {F : Value → Prop} : ex_gf (ex_g (mdl M A g) M) 8 10 F = F (.ref (M + 9)) := by rw [mg_0]; rfl
theorem mf11 {F : Value → Prop} : ex_gf (ex_g (mdl M A g) M) 8 11 F = F (.ref (M + 10)) := by rw [mg_0]; rfl
theorem mf12 {F : Value → Prop} : ex_gf (ex_g (mdl M A g) M) 8 12 F = F (.ref (M + 11)) := by rw [mg_0]; rfl
theorem mf13 {F : Value → Prop} : ex_gf (ex_g (mdl M A g) M) 8 13 F = F (.ref (M + 12)) := by rw [mg_0]; rfl
theorem mf14 {F : Value → Prop} : ex_gf (ex_g (mdl M A g) M) 8 14 F = F (.ref (M + 13)) := by rw [mg_0]; rfl
theorem mf15 {F : Value → Prop} : ex_gf (ex_g (mdl M A g) M) 8 15 F = F (.ref (M + 14)) := by rw [mg_0]; rfl
theorem mf16 {F : Value → Prop} : ex_gf (ex_g (mdl M A g) M) 8 16 F = F (.ref (M + 15)) := by rw [mg_0]; rfl
theorem mf17 {F : Value → Prop} : ex_gf (ex_g (mdl M A g) M) 8 17 F = F (.ref (M + 16)) := by rw [mg_0]; rfl
theorem mf18 {F : Value → Prop} : ex_gf (ex_g (mdl M A g) M) 8 18 F = F (.ref (M + 17)) := by rw [mg_0]; rfl
theorem mf19 {F : Value → Prop} : ex_gf (ex_g (mdl M A g) M) 8 19 F = F (.ref (M + 18)) := by rw [mg_0]; rfl
theorem mf20 {F : Value → Prop} : ex_gf (ex_g (mdl M A g) M) 8 20 F = F (.ref (M + 19)) := by rw [mg_0]; rfl
theorem mf21 {F : Value → Prop} : ex_gf (ex_g (mdl M A g) M) 8 21 F = F (.ref (M + 20)) := by rw [mg_0]; rfl
theorem mf22 {F : Value → Prop} : ex_gf (ex_g (mdl M A g) M) 8 22 F = F (.int (A 0 2)) := by rw [mg_0]; rfl
theorem mp22 {x : Int32} {F : ex_AC → Prop} : ex_pf (ex_g (mdl M A g) M) 8 22 (.int x) F = F (mObj M (ua A 0 (upd (A 0) 2 x))) := by rw [mg_0]; rfl
theorem mq22 {x : Int32} : ex_set (mdl M A g) M (mObj M (ua A 0 (upd (A 0) 2 x))) = mdl M (ua A 0 (upd (A 0) 2 x)) g := ms_0 (fun k hk => ua_n (by omega))
theorem mf23 {F : Value → Prop} : ex_gf (ex_g (mdl M A g) M) 8 23 F = F (.ref (M + 21)) := by rw [mg_0]; rfl
theorem mf24 {F : Value → Prop} : ex_gf (ex_g (mdl M A g) M) 8 24 F = F (.ref (M + 22)) := by rw [mg_0]; rfl
theorem mf25 {F : Value → Prop} : ex_gf (ex_g (mdl M A g) M) 8 25 F = F (.int (A 0 3)) := by rw [mg_0]; rfl
theorem mp25 {x : Int32} {F : ex_AC → Prop} : ex_pf (ex_g (mdl M A g) M) 8 25 (.int x) F = F (mObj M (ua A 0 (upd (A 0) 3 x))) := by rw [mg_0]; rfl
theorem mq25 {x : Int32} : ex_set (mdl M A g) M (mObj M (ua A 0 (upd (A 0) 3 x))) = mdl M (ua A 0 (upd (A 0) 3 x)) g := ms_0 (fun k hk => ua_n (by omega))
theorem mf26 {F : Value → Prop} : ex_gf (ex_g (mdl M A g) M) 8 26 F = F (.int (A 0 4)) := by rw [mg_0]; rfl
theorem mp26 {x : Int32} {F : ex_AC → Prop} : ex_pf (ex_g (mdl M A g) M) 8 26 (.int x) F = F (mObj M (ua A 0 (upd (A 0) 4 x))) := by rw [mg_0]; rfl
theorem mq26 {x : Int32} : ex_set (mdl M A g) M (mObj M (ua A 0 (upd (A 0) 4 x))) = mdl M (ua A 0 (upd (A 0) 4 x)) g := ms_0 (fun k hk => ua_n (by omega))
theorem mq_0 {f : Nat → Int32} : ex_set (mdl M A g) M (mObj M (ua A 0 f)) = mdl M (ua A 0 f) g := ms_0 (fun k hk => ua_n (by omega))
end MDL
