theorem ex_law_all : ∀ pc, pc < 874 → ex_okP 161 pc = true := by
  intro pc hy
  by_cases h0 : pc < 60
  · exact List.all_eq_true.mp ex_lawseg_0 pc (List.mem_range'_1.mpr ⟨by omega, by omega⟩)
  by_cases h1 : pc < 120
  · exact List.all_eq_true.mp ex_lawseg_1 pc (List.mem_range'_1.mpr ⟨by omega, by omega⟩)
  by_cases h2 : pc < 180
  · exact List.all_eq_true.mp ex_lawseg_2 pc (List.mem_range'_1.mpr ⟨by omega, by omega⟩)
  by_cases h3 : pc < 240
  · exact List.all_eq_true.mp ex_lawseg_3 pc (List.mem_range'_1.mpr ⟨by omega, by omega⟩)
  by_cases h4 : pc < 300
  · exact List.all_eq_true.mp ex_lawseg_4 pc (List.mem_range'_1.mpr ⟨by omega, by omega⟩)
  by_cases h5 : pc < 360
  · exact List.all_eq_true.mp ex_lawseg_5 pc (List.mem_range'_1.mpr ⟨by omega, by omega⟩)
  by_cases h6 : pc < 420
  · exact List.all_eq_true.mp ex_lawseg_6 pc (List.mem_range'_1.mpr ⟨by omega, by omega⟩)
  by_cases h7 : pc < 480
  · exact List.all_eq_true.mp ex_lawseg_7 pc (List.mem_range'_1.mpr ⟨by omega, by omega⟩)
  by_cases h8 : pc < 540
  · exact List.all_eq_true.mp ex_lawseg_8 pc (List.mem_range'_1.mpr ⟨by omega, by omega⟩)
  by_cases h9 : pc < 600
  · exact List.all_eq_true.mp ex_lawseg_9 pc (List.mem_range'_1.mpr ⟨by omega, by omega⟩)
  by_cases h10 : pc < 660
  · exact List.all_eq_true.mp ex_lawseg_10 pc (List.mem_range'_1.mpr ⟨by omega, by omega⟩)
  by_cases h11 : pc < 720
  · exact List.all_eq_true.mp ex_lawseg_11 pc (List.mem_range'_1.mpr ⟨by omega, by omega⟩)
  by_cases h12 : pc < 780
  · exact List.all_eq_true.mp ex_lawseg_12 pc (List.mem_range'_1.mpr ⟨by omega, by omega⟩)
  by_cases h13 : pc < 840
  · exact List.all_eq_true.mp ex_lawseg_13 pc (List.mem_range'_1.mpr ⟨by omega, by omega⟩)
  by_cases h14 : pc < 874
  · exact List.all_eq_true.mp ex_lawseg_14 pc (List.mem_range'_1.mpr ⟨by omega, by omega⟩)
  exact absurd hy (by omega)
theorem ex_law_len : (ex_codes.getD 161 []).length = 874 := by decide +kernel
theorem ex_ok {y pc : Nat} (h : ¬ ex_mo y pc = ex_no) : ex_okI y pc (ex_mo y pc) = true := by
  have hy : y < 162 := by
    rcases Nat.lt_or_ge y 162 with q | q
    · exact q
    · exfalso
      apply h
      unfold ex_mo
      rw [List.getD_eq_getElem?_getD (l := ex_codes), List.getElem?_eq_none (by rw [ex_codes_len]; exact q)]
      rfl
  have hpc : pc < (ex_codes.getD y []).length := by
    rcases Nat.lt_or_ge pc (ex_codes.getD y []).length with q | q
    · exact q
    · exfalso
      apply h
      unfold ex_mo
      rw [List.getD_eq_getElem?_getD, List.getElem?_eq_none q]
      rfl
  by_cases hl : y = 161
  · subst hl
    have h2 := ex_law_all pc (by rw [ex_law_len] at hpc; exact hpc)
    unfold ex_okP at h2
    rw [Bool.or_eq_true, decide_eq_true_eq] at h2
    rcases h2 with h2 | h2
    · exact absurd h2 h
    · exact h2
  · have h1 := List.all_eq_true.mp (ex_chk_all y (by omega))
    unfold ex_mo at h ⊢
    generalize ex_codes.getD y [] = l at h h1 hpc ⊢
    have hg : l.getD pc ex_no = l[pc] := by simp [List.getD_eq_getElem?_getD, hpc]
    rw [hg] at h ⊢
    have h2 := h1 (l[pc], pc) (by
      rw [List.mem_iff_getElem?]
      exact ⟨pc, by simp [hpc]⟩)
    simp only [Bool.or_eq_true, decide_eq_true_eq] at h2
    rcases h2 with h2 | h2
    · exact absurd h2 h
    · exact h2
