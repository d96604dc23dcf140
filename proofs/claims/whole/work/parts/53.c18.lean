/-! THE CLASS: projectors -/
section C18
variable {h H : ex_Hp} {X : Option Value → ex_Hp → Prop} {v a s p lo r0 al : Nat} {L R L2 R2 : Nat → Nat}
theorem pilB_c {x : Nat} (hL : L2 x = L x) (hR : ∀ d, d < tC v → R2 d = R d) : ∀ (m t : Nat) (W : Nat → Nat), m + t = tC v → pilB v p lo L2 R2 x m t W = pilB v p lo L R x m t W := by
  intro m
  induction m with
  | zero => intro t W hm; rfl
  | succ m ih =>
    intro t W hm
    rw [pilB, pilB, hL, hR t (by omega)]
    exact ih (t + 1) _ (by omega)
theorem pilA_c (hL : ∀ d, d < tC v → L2 d = L d) (hR : ∀ d, d < tC v → R2 d = R d) : ∀ (m t : Nat) (W : Nat → Nat), m + t = tC v → pilA v p lo L2 R2 m t W = pilA v p lo L R m t W := by
  intro m
  induction m with
  | zero => intro t W hm; rfl
  | succ m ih =>
    intro t W hm
    rw [pilA, pilA, pilB_c (hL t (by omega)) hR (tC v) 0 W (by omega)]
    exact ih (t + 1) _ (by omega)
theorem pil_c (hL : ∀ d, d < tC v → L2 d = L d) (hR : ∀ d, d < tC v → R2 d = R d) : pil v p lo L2 R2 = pil v p lo L R := pilA_c hL hR (tC v) 0 _ (by omega)
theorem chX.sub {ks js : List Nat} (q : chX v a ks h H) (hs : ∀ z, z ∈ ks → z ∈ js) : chX v a js h H := ⟨q.1, q.2.1, fun z z1 z2 => q.2.2 z (fun e => z1 (hs z e)) z2⟩
theorem chX.trans {ks : List Nat} {K : ex_Hp} (x : chX v a ks h H) (y : chX v a ks H K) : chX v a ks h K := ⟨y.1.trans x.1, y.2.1.trans x.2.1, fun z z1 z2 => (y.2.2 z z1 z2).trans (x.2.2 z z1 z2)⟩
def pjZ (v p lo k : Nat) : Nat → Nat := fun d => if d < tC v then prj v p lo k d else 0
theorem pjZ_lt {k d : Nat} (hp : 2 ≤ p) : pjZ v p lo k d < p := by
  unfold pjZ
  split
  · exact prj_lt hp k d
  · omega
def isI (r : Nat) (h : ex_Hp) : Prop := ∃ f, ex_g h r = some (cI 42 f)
end C18
