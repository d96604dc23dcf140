/-! THE CLASS: sums piled -/
section C17
variable {h H : ex_Hp} {X : Option Value → ex_Hp → Prop} {v a s p lo r r0 r1 r2 al : Nat} {L R W T : Nat → Nat}
theorem pil_z {x : Nat} {W : Nat → Nat} {k : Nat} (hW : W k < p) (hx : x = 0) : updN W k ((W k + x) % p) = W := by
  subst hx
  funext j
  unfold updN
  by_cases hj : j = k
  · rw [if_pos hj, hj, Nat.add_zero, Nat.mod_eq_of_lt hW]
  · rw [if_neg hj]
end C17
