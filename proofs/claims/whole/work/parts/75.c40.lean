/-! CLASS AND REFERENCE SIDE BY SIDE: the calls, 2 -/
section C40
variable {h H : ex_Hp} {X Z : Option Value → ex_Hp → Prop} {c L : Nat} {xs : Nat → Int32}
theorem isPut_ok {v p : Nat} {x y z : Int32} (hc : isPut v p x y z = nI 1) : (isW 0 4 x ∧ isW 0 (tC v - 1) y) ∧ isW 0 (p - 1) z := by
  unfold isPut at hc
  by_cases h1 : isW 0 4 x ∧ isW 0 (tC v - 1) y
  · rw [if_pos h1] at hc
    by_cases h2 : isW 0 (p - 1) z
    · exact ⟨h1, h2⟩
    · rw [if_neg h2] at hc
      exact absurd hc (by decide)
  · rw [if_neg h1] at hc
    exact absurd hc (by decide)
theorem mSt.put {v p lo s d z : Nat} {S : Nat → Nat → Nat} {f : Nat → Int32} (hS : mSt v p lo S f) (hs : s < 5) (hd : d < tC v) (hC : tC v ≤ 42) : mSt v p lo (setS S s (tC v) (updN (S s) d z)) (upd f (3 + 42 * s + d) (nI z)) := by
  obtain ⟨a1, a2, a3, a4⟩ := hS
  refine ⟨?_, ?_, ?_, fun t ht e he => ?_⟩
  · rw [pk_un (by omega)]; exact a1
  · rw [pk_un (by omega)]; exact a2
  · rw [pk_un (by omega)]; exact a3
  · unfold setS updN
    by_cases c : t = s ∧ e = d
    · obtain ⟨c1, c2⟩ := c
      rw [c1, c2, pk_us, if_pos ⟨rfl, hd⟩, if_pos rfl]
    · rw [pk_un (by omega), a4 t ht e he]
      by_cases c1 : t = s ∧ e < tC v
      · rw [if_pos c1, if_neg (by omega), c1.1]
      · rw [if_neg c1]
theorem p_put {x y z : Int32} (hL : LI c L xs h) (hZ : ∀ k H, LSx L xs H → ex_W 132 0 [.ref 63, .int x, .int y, .int z, oU] [] H (fun r2 h2 => r2 = some (.int k) ∧ LI (c + 1) L xs h2) → Z (some (.int k)) H) : ex_W 72 0 [.ref 1, .int x, .int y, .int z, oU] [] h Z := by
  obtain ⟨A, N, F, v, p, lo, S, I, hR, ⟨ρ, ι, hC⟩, hM, l1, l2, l3⟩ := hL
  have h1 := hC.2.1.1.1
  have h2 := hC.2.1.1.2
  obtain ⟨_, ⟨hp, hp2, hpr⟩, hlo, hok⟩ := hC.2.1
  have hN := hC.1
  try dsimp only at h1 h2 hp hp2 hpr hlo hok
  obtain ⟨m1, m2, m3, m4, m5⟩ := id hM
  have hSl : ∀ s, s < 5 → ∀ d, S s d < p := fun s hs d => (hok s hs d).1
  have hS3 : A 1 0 = nI v ∧ A 1 1 = nI p ∧ A 1 2 = nI lo := ⟨m4.1, m4.2.1, m4.2.2.1⟩
  have hTc := tC_le h1 h2
  refine x_put hC (fun hc0 H hc hC2 => ?_) (fun hc0 => ?_)
  · obtain ⟨⟨hx, hy⟩, hz⟩ := isPut_ok hc0
    obtain ⟨_, q2, q3⟩ := isW_e (by decide) (by decide) hx
    obtain ⟨_, r2, r3⟩ := isW_e (by decide) (by omega) hy
    obtain ⟨_, t2, t3⟩ := isW_e (by decide) (by omega) hz
    refine hZ _ H ((hR.cc hc).ls ((hc.1 0 (by omega)).trans l3)) ?_
    rw [← mdl_eta (hR.cc hc)]
    refine r_put h1 h2 (by omega) hS3.2.1 m3 hc0 ?_
    have e := m4.put (s := ix x) (d := ix y) (z := ix z) (by omega) (by omega) hTc.2
    rw [t3] at e
    exact ⟨by rw [m4.2.2.2 _ (by omega) _ (by omega)], LI.fin ⟨ρ, ι, hC2⟩ (hM.one e) hc l1 l2 l3⟩
  · refine hZ _ h (hR.ls l3) ?_
    rw [← mdl_eta hR]
    exact r_put_no h1 h2 (by omega) hS3.2.1 m3 hc0 ⟨rfl, LI.fin ⟨ρ, ι, hC⟩ hM chC.rfl' l1 l2 l3⟩
theorem p_at {x y : Int32} (hL : LI c L xs h) (hZ : ∀ k H, LSx L xs H → ex_W 133 0 [.ref 63, .int x, .int y] [] H (fun r2 h2 => r2 = some (.int k) ∧ LI (c + 1) L xs h2) → Z (some (.int k)) H) : ex_W 73 0 [.ref 1, .int x, .int y] [] h Z := by
  obtain ⟨A, N, F, v, p, lo, S, I, hR, ⟨ρ, ι, hC⟩, hM, l1, l2, l3⟩ := hL
  have h1 := hC.2.1.1.1
  have h2 := hC.2.1.1.2
  obtain ⟨_, ⟨hp, hp2, hpr⟩, hlo, hok⟩ := hC.2.1
  have hN := hC.1
  try dsimp only at h1 h2 hp hp2 hpr hlo hok
  obtain ⟨m1, m2, m3, m4, m5⟩ := id hM
  have hSl : ∀ s, s < 5 → ∀ d, S s d < p := fun s hs d => (hok s hs d).1
  have hS3 : A 1 0 = nI v ∧ A 1 1 = nI p ∧ A 1 2 = nI lo := ⟨m4.1, m4.2.1, m4.2.2.1⟩
  have hTc := tC_le h1 h2
  refine x_at hC (hZ _ h (hR.ls l3) ?_)
  rw [← mdl_eta hR]
  refine r_at h1 h2 m3 ⟨?_, LI.fin ⟨ρ, ι, hC⟩ hM chC.rfl' l1 l2 l3⟩
  unfold aAt
  by_cases hc : isW 0 4 x ∧ isW 0 (tC v - 1) y
  · obtain ⟨_, q2, q3⟩ := isW_e (by decide) (by decide) hc.1
    obtain ⟨_, r2, r3⟩ := isW_e (by decide) (by omega) hc.2
    rw [if_pos hc, if_pos hc, m4.2.2.2 _ (by omega) _ (by omega)]
  · rw [if_neg hc, if_neg hc]
theorem p_both {x y z w : Int32} (hL : LI c L xs h) (hZ : ∀ k H, LSx L xs H → ex_W 136 0 [.ref 63, .int x, .int y, .int z, .int w, oU] [] H (fun r2 h2 => r2 = some (.int k) ∧ LI (c + 1) L xs h2) → Z (some (.int k)) H) : ex_W 74 0 [.ref 1, .int x, .int y, .int z, .int w] [] h Z := by
  obtain ⟨A, N, F, v, p, lo, S, I, hR, ⟨ρ, ι, hC⟩, hM, l1, l2, l3⟩ := hL
  have h1 := hC.2.1.1.1
  have h2 := hC.2.1.1.2
  obtain ⟨_, ⟨hp, hp2, hpr⟩, hlo, hok⟩ := hC.2.1
  have hN := hC.1
  try dsimp only at h1 h2 hp hp2 hpr hlo hok
  obtain ⟨m1, m2, m3, m4, m5⟩ := id hM
  have hSl : ∀ s, s < 5 → ∀ d, S s d < p := fun s hs d => (hok s hs d).1
  have hS3 : A 1 0 = nI v ∧ A 1 1 = nI p ∧ A 1 2 = nI lo := ⟨m4.1, m4.2.1, m4.2.2.1⟩
  refine x_both hC (fun hc0 H hc hC2 => ?_) (fun hc0 => ?_)
  · refine hZ _ H ((hR.cc hc).ls ((hc.1 0 (by omega)).trans l3)) ?_
    rw [← mdl_eta (hR.cc hc)]
    exact r_both h1 h2 hp hp2 hlo m3 m4 hSl hc0.1.1 hc0.1.2.1 hc0.1.2.2 hc0.2 (fun B hB hS => ⟨rfl, LI.fin ⟨ρ, ι, hC2⟩ (hM.sum hB hS) hc l1 l2 l3⟩)
  · refine hZ _ h (hR.ls l3) ?_
    rw [← mdl_eta hR]
    exact r_both_no hc0 ⟨rfl, LI.fin ⟨ρ, ι, hC⟩ hM chC.rfl' l1 l2 l3⟩
theorem p_times {x y z : Int32} (hL : LI c L xs h) (hZ : ∀ k H, LSx L xs H → ex_W 137 0 [.ref 63, .int x, .int y, .int z, oU] [] H (fun r2 h2 => r2 = some (.int k) ∧ LI (c + 1) L xs h2) → Z (some (.int k)) H) : ex_W 75 0 [.ref 1, .int x, .int y, .int z] [] h Z := by
  obtain ⟨A, N, F, v, p, lo, S, I, hR, ⟨ρ, ι, hC⟩, hM, l1, l2, l3⟩ := hL
  have h1 := hC.2.1.1.1
  have h2 := hC.2.1.1.2
  obtain ⟨_, ⟨hp, hp2, hpr⟩, hlo, hok⟩ := hC.2.1
  have hN := hC.1
  try dsimp only at h1 h2 hp hp2 hpr hlo hok
  obtain ⟨m1, m2, m3, m4, m5⟩ := id hM
  have hSl : ∀ s, s < 5 → ∀ d, S s d < p := fun s hs d => (hok s hs d).1
  have hS3 : A 1 0 = nI v ∧ A 1 1 = nI p ∧ A 1 2 = nI lo := ⟨m4.1, m4.2.1, m4.2.2.1⟩
  refine x_times hC (fun hc0 H hc hC2 => ?_) (fun hc0 => ?_)
  · refine hZ _ H ((hR.cc hc).ls ((hc.1 0 (by omega)).trans l3)) ?_
    rw [← mdl_eta (hR.cc hc)]
    exact r_times h1 h2 hp hp2 m3 m4 hSl hc0.1.1 hc0.1.2 hc0.2 (fun B hB hS => ⟨rfl, LI.fin ⟨ρ, ι, hC2⟩ (hM.sum hB hS) hc l1 l2 l3⟩)
  · refine hZ _ h (hR.ls l3) ?_
    rw [← mdl_eta hR]
    exact r_times_no (by omega) hS3.2.1 hc0 ⟨rfl, LI.fin ⟨ρ, ι, hC⟩ hM chC.rfl' l1 l2 l3⟩
theorem p_turn {x y : Int32} (hL : LI c L xs h) (hZ : ∀ k H, LSx L xs H → ex_W 138 0 [.ref 63, .int x, .int y, oU] [] H (fun r2 h2 => r2 = some (.int k) ∧ LI (c + 1) L xs h2) → Z (some (.int k)) H) : ex_W 76 0 [.ref 1, .int x, .int y] [] h Z := by
  obtain ⟨A, N, F, v, p, lo, S, I, hR, ⟨ρ, ι, hC⟩, hM, l1, l2, l3⟩ := hL
  have h1 := hC.2.1.1.1
  have h2 := hC.2.1.1.2
  obtain ⟨_, ⟨hp, hp2, hpr⟩, hlo, hok⟩ := hC.2.1
  have hN := hC.1
  try dsimp only at h1 h2 hp hp2 hpr hlo hok
  obtain ⟨m1, m2, m3, m4, m5⟩ := id hM
  have hSl : ∀ s, s < 5 → ∀ d, S s d < p := fun s hs d => (hok s hs d).1
  have hS3 : A 1 0 = nI v ∧ A 1 1 = nI p ∧ A 1 2 = nI lo := ⟨m4.1, m4.2.1, m4.2.2.1⟩
  refine x_turn hC (fun hc0 H hc hC2 => ?_) (fun hc0 => ?_)
  · refine hZ _ H ((hR.cc hc).ls ((hc.1 0 (by omega)).trans l3)) ?_
    rw [← mdl_eta (hR.cc hc)]
    exact r_turn h1 h2 hp2 m3 m4 hSl hc0.1 hc0.2 (fun B hB hS => ⟨rfl, LI.fin ⟨ρ, ι, hC2⟩ (hM.sum hB hS) hc l1 l2 l3⟩)
  · refine hZ _ h (hR.ls l3) ?_
    rw [← mdl_eta hR]
    exact r_turn_no hc0 ⟨rfl, LI.fin ⟨ρ, ι, hC⟩ hM chC.rfl' l1 l2 l3⟩
theorem p_trace {x : Int32} (hL : LI c L xs h) (hZ : ∀ k H, LSx L xs H → ex_W 139 0 [.ref 63, .int x, oU, oU] [] H (fun r2 h2 => r2 = some (.int k) ∧ LI (c + 1) L xs h2) → Z (some (.int k)) H) : ex_W 77 0 [.ref 1, .int x] [] h Z := by
  obtain ⟨A, N, F, v, p, lo, S, I, hR, ⟨ρ, ι, hC⟩, hM, l1, l2, l3⟩ := hL
  have h1 := hC.2.1.1.1
  have h2 := hC.2.1.1.2
  obtain ⟨_, ⟨hp, hp2, hpr⟩, hlo, hok⟩ := hC.2.1
  have hN := hC.1
  try dsimp only at h1 h2 hp hp2 hpr hlo hok
  obtain ⟨m1, m2, m3, m4, m5⟩ := id hM
  have hSl : ∀ s, s < 5 → ∀ d, S s d < p := fun s hs d => (hok s hs d).1
  have hS3 : A 1 0 = nI v ∧ A 1 1 = nI p ∧ A 1 2 = nI lo := ⟨m4.1, m4.2.1, m4.2.2.1⟩
  refine x_trace hC (hZ _ h (hR.ls l3) ?_)
  rw [← mdl_eta hR]
  exact r_trace h1 h2 hp hp2 hlo m3 m4 hSl ⟨rfl, LI.fin ⟨ρ, ι, hC⟩ hM chC.rfl' l1 l2 l3⟩
theorem p_bracket {x : Int32} (hL : LI c L xs h) (hZ : ∀ k H, LSx L xs H → ex_W 141 0 [.ref 63, .int x] [] H (fun r2 h2 => r2 = some (.int k) ∧ LI (c + 1) L xs h2) → Z (some (.int k)) H) : ex_W 78 0 [.ref 1, .int x] [] h Z := by
  obtain ⟨A, N, F, v, p, lo, S, I, hR, ⟨ρ, ι, hC⟩, hM, l1, l2, l3⟩ := hL
  have h1 := hC.2.1.1.1
  have h2 := hC.2.1.1.2
  obtain ⟨_, ⟨hp, hp2, hpr⟩, hlo, hok⟩ := hC.2.1
  have hN := hC.1
  try dsimp only at h1 h2 hp hp2 hpr hlo hok
  obtain ⟨m1, m2, m3, m4, m5⟩ := id hM
  have hSl : ∀ s, s < 5 → ∀ d, S s d < p := fun s hs d => (hok s hs d).1
  have hS3 : A 1 0 = nI v ∧ A 1 1 = nI p ∧ A 1 2 = nI lo := ⟨m4.1, m4.2.1, m4.2.2.1⟩
  refine x_bracket hC (hZ _ h (hR.ls l3) ?_)
  rw [← mdl_eta hR]
  exact r_bracket hp hp2 hlo hS3.2.1 hS3.2.2 ⟨rfl, LI.fin ⟨ρ, ι, hC⟩ hM chC.rfl' l1 l2 l3⟩
theorem p_project {x y : Int32} (hL : LI c L xs h) (hZ : ∀ k H, LSx L xs H → ex_W 144 0 [.ref 63, .int x, .int y, oU] [] H (fun r2 h2 => r2 = some (.int k) ∧ LI (c + 1) L xs h2) → Z (some (.int k)) H) : ex_W 79 0 [.ref 1, .int x, .int y] [] h Z := by
  obtain ⟨A, N, F, v, p, lo, S, I, hR, ⟨ρ, ι, hC⟩, hM, l1, l2, l3⟩ := hL
  have h1 := hC.2.1.1.1
  have h2 := hC.2.1.1.2
  obtain ⟨_, ⟨hp, hp2, hpr⟩, hlo, hok⟩ := hC.2.1
  have hN := hC.1
  try dsimp only at h1 h2 hp hp2 hpr hlo hok
  obtain ⟨m1, m2, m3, m4, m5⟩ := id hM
  have hSl : ∀ s, s < 5 → ∀ d, S s d < p := fun s hs d => (hok s hs d).1
  have hS3 : A 1 0 = nI v ∧ A 1 1 = nI p ∧ A 1 2 = nI lo := ⟨m4.1, m4.2.1, m4.2.2.1⟩
  refine x_project hC (fun hc0 H hc hC2 => ?_) (fun hc0 => ?_)
  · refine hZ _ H ((hR.cc hc).ls ((hc.1 0 (by omega)).trans l3)) ?_
    rw [← mdl_eta (hR.cc hc)]
    exact r_project h1 h2 hp hp2 hpr hlo m3 m4 hc0 (fun B hB hS => ⟨rfl, LI.fin ⟨ρ, ι, hC2⟩ (hM.sum hB hS) hc l1 l2 l3⟩)
  · refine hZ _ h (hR.ls l3) ?_
    rw [← mdl_eta hR]
    exact r_project_no h2 hp hp2 hlo hS3 hc0 ⟨rfl, LI.fin ⟨ρ, ι, hC⟩ hM chC.rfl' l1 l2 l3⟩
theorem p_cell {x y : Int32} (hL : LI c L xs h) (hZ : ∀ k H, LSx L xs H → ex_W 154 0 [.ref 63, .int x, .int y] [] H (fun r2 h2 => r2 = some (.int k) ∧ LI (c + 1) L xs h2) → Z (some (.int k)) H) : ex_W 80 0 [.ref 1, .int x, .int y, oU] [] h Z := by
  obtain ⟨A, N, F, v, p, lo, S, I, hR, ⟨ρ, ι, hC⟩, hM, l1, l2, l3⟩ := hL
  have h1 := hC.2.1.1.1
  have h2 := hC.2.1.1.2
  obtain ⟨_, ⟨hp, hp2, hpr⟩, hlo, hok⟩ := hC.2.1
  have hN := hC.1
  try dsimp only at h1 h2 hp hp2 hpr hlo hok
  obtain ⟨m1, m2, m3, m4, m5⟩ := id hM
  have hSl : ∀ s, s < 5 → ∀ d, S s d < p := fun s hs d => (hok s hs d).1
  have hS3 : A 1 0 = nI v ∧ A 1 1 = nI p ∧ A 1 2 = nI lo := ⟨m4.1, m4.2.1, m4.2.2.1⟩
  refine x_cell hC (fun H hc hC2 => ?_)
  refine hZ _ H ((hR.cc hc).ls ((hc.1 0 (by omega)).trans l3)) ?_
  rw [← mdl_eta (hR.cc hc)]
  exact r_cell h1 h2 hp hp2 hpr hlo hS3 (fun B hB => ⟨rfl, LI.fin ⟨ρ, ι, hC2⟩ (hM.keep hB) hc l1 l2 l3⟩)
theorem p_form {x y z : Int32} (hL : LI c L xs h) (hZ : ∀ k H, LSx L xs H → ex_W 155 0 [.ref 63, .int x, .int y, .int z] [] H (fun r2 h2 => r2 = some (.int k) ∧ LI (c + 1) L xs h2) → Z (some (.int k)) H) : ex_W 81 0 [.ref 1, .int x, .int y, .int z, oU] [] h Z := by
  obtain ⟨A, N, F, v, p, lo, S, I, hR, ⟨ρ, ι, hC⟩, hM, l1, l2, l3⟩ := hL
  have h1 := hC.2.1.1.1
  have h2 := hC.2.1.1.2
  obtain ⟨_, ⟨hp, hp2, hpr⟩, hlo, hok⟩ := hC.2.1
  have hN := hC.1
  try dsimp only at h1 h2 hp hp2 hpr hlo hok
  obtain ⟨m1, m2, m3, m4, m5⟩ := id hM
  have hSl : ∀ s, s < 5 → ∀ d, S s d < p := fun s hs d => (hok s hs d).1
  have hS3 : A 1 0 = nI v ∧ A 1 1 = nI p ∧ A 1 2 = nI lo := ⟨m4.1, m4.2.1, m4.2.2.1⟩
  refine x_form hC (hZ _ h (hR.ls l3) ?_)
  rw [← mdl_eta hR]
  exact r_form h1 h2 hp hp2 hlo hS3 (fun B hB => ⟨rfl, LI.fin ⟨ρ, ι, hC⟩ (hM.keep hB) chC.rfl' l1 l2 l3⟩)
theorem p_image {x : Int32} (hL : LI c L xs h) (hZ : ∀ k H, LSx L xs H → ex_W 156 0 [.ref 63, .int x, oU] [] H (fun r2 h2 => r2 = some (.int k) ∧ LI (c + 1) L xs h2) → Z (some (.int k)) H) : ex_W 82 0 [.ref 1, .int x] [] h Z := by
  obtain ⟨A, N, F, v, p, lo, S, I, hR, ⟨ρ, ι, hC⟩, hM, l1, l2, l3⟩ := hL
  have h1 := hC.2.1.1.1
  have h2 := hC.2.1.1.2
  obtain ⟨_, ⟨hp, hp2, hpr⟩, hlo, hok⟩ := hC.2.1
  have hN := hC.1
  try dsimp only at h1 h2 hp hp2 hpr hlo hok
  obtain ⟨m1, m2, m3, m4, m5⟩ := id hM
  have hSl : ∀ s, s < 5 → ∀ d, S s d < p := fun s hs d => (hok s hs d).1
  have hS3 : A 1 0 = nI v ∧ A 1 1 = nI p ∧ A 1 2 = nI lo := ⟨m4.1, m4.2.1, m4.2.2.1⟩
  refine x_image hC (fun hx H hc hC2 => ?_) (fun hx => ?_)
  · obtain ⟨_, q2, q3⟩ := isW_e (by decide) (by decide) hx
    refine hZ _ H ((hR.cc hc).ls ((hc.1 0 (by omega)).trans l3)) ?_
    rw [← mdl_eta (hR.cc hc)]
    exact r_image hx ⟨rfl, LI.fin hC2 (hM.img (by omega)) hc l1 l2 l3⟩
  · refine hZ _ h (hR.ls l3) ?_
    rw [← mdl_eta hR]
    exact r_image_no hx ⟨rfl, LI.fin ⟨ρ, ι, hC⟩ hM chC.rfl' l1 l2 l3⟩
theorem p_restore {x : Int32} (hL : LI c L xs h) (hZ : ∀ k H, LSx L xs H → ex_W 157 0 [.ref 63, .int x, oU] [] H (fun r2 h2 => r2 = some (.int k) ∧ LI (c + 1) L xs h2) → Z (some (.int k)) H) : ex_W 83 0 [.ref 1, .int x] [] h Z := by
  obtain ⟨A, N, F, v, p, lo, S, I, hR, ⟨ρ, ι, hC⟩, hM, l1, l2, l3⟩ := hL
  have h1 := hC.2.1.1.1
  have h2 := hC.2.1.1.2
  obtain ⟨_, ⟨hp, hp2, hpr⟩, hlo, hok⟩ := hC.2.1
  have hN := hC.1
  try dsimp only at h1 h2 hp hp2 hpr hlo hok
  obtain ⟨m1, m2, m3, m4, m5⟩ := id hM
  have hSl : ∀ s, s < 5 → ∀ d, S s d < p := fun s hs d => (hok s hs d).1
  have hS3 : A 1 0 = nI v ∧ A 1 1 = nI p ∧ A 1 2 = nI lo := ⟨m4.1, m4.2.1, m4.2.2.1⟩
  refine x_restore hC (fun hx z hz H hc hC2 => ?_) (fun hx hz => ?_) (fun hx => ?_)
  · obtain ⟨_, q2, q3⟩ := isW_e (by decide) (by decide) hx
    rcases m5 (ix x) (by omega) with ⟨y, _⟩ | ⟨z', y1, y2, y3⟩
    · rw [hz] at y; cases y
    · rw [hz] at y1
      cases y1
      refine hZ _ H ((hR.cc hc).ls ((hc.1 0 (by omega)).trans l3)) ?_
      rw [← mdl_eta (hR.cc hc)]
      refine r_restore hx y2 hC2.2.1.1.1 hC2.2.1.1.2 y3.1 (fun B b1 b2 b3 b4 => ⟨rfl, LI.fin ⟨ρ, ι, hC2⟩ (hM.lay b1 b2 b4 ?_) hc l1 l2 l3⟩)
      rw [b3]
      exact y3.ag (fun j hj => if_pos hj)
  · obtain ⟨_, q2, q3⟩ := isW_e (by decide) (by decide) hx
    rcases m5 (ix x) (by omega) with ⟨y, y0⟩ | ⟨z', y1, y2, y3⟩
    · refine hZ _ h (hR.ls l3) ?_
      rw [← mdl_eta hR]
      exact r_restore_st hx y0 ⟨rfl, LI.fin ⟨ρ, ι, hC⟩ hM chC.rfl' l1 l2 l3⟩
    · rw [hz] at y1; cases y1
  · refine hZ _ h (hR.ls l3) ?_
    rw [← mdl_eta hR]
    exact r_restore_no hx ⟨rfl, LI.fin ⟨ρ, ι, hC⟩ hM chC.rfl' l1 l2 l3⟩
theorem p_count {x : Int32} (hL : LI c L xs h) (hZ : ∀ k H, LSx L xs H → ex_W 158 0 [.ref 63, .int x] [] H (fun r2 h2 => r2 = some (.int k) ∧ LI (c + 1) L xs h2) → Z (some (.int k)) H) : ex_W 84 0 [.ref 1, .int x] [] h Z := by
  obtain ⟨A, N, F, v, p, lo, S, I, hR, ⟨ρ, ι, hC⟩, hM, l1, l2, l3⟩ := hL
  have h1 := hC.2.1.1.1
  have h2 := hC.2.1.1.2
  obtain ⟨_, ⟨hp, hp2, hpr⟩, hlo, hok⟩ := hC.2.1
  have hN := hC.1
  try dsimp only at h1 h2 hp hp2 hpr hlo hok
  obtain ⟨m1, m2, m3, m4, m5⟩ := id hM
  have hSl : ∀ s, s < 5 → ∀ d, S s d < p := fun s hs d => (hok s hs d).1
  have hS3 : A 1 0 = nI v ∧ A 1 1 = nI p ∧ A 1 2 = nI lo := ⟨m4.1, m4.2.1, m4.2.2.1⟩
  refine x_count (b0 := (I 0).isSome) (b1 := (I 1).isSome) hC rfl rfl (hZ _ h (hR.ls l3) ?_)
  rw [← mdl_eta hR]
  refine r_count m3 hS3.1 hS3.2.1 hS3.2.2 m1 ?_ ?_ ⟨rfl, LI.fin ⟨ρ, ι, hC⟩ hM chC.rfl' l1 l2 l3⟩
  · rcases m5 0 (by decide) with ⟨y, y0⟩ | ⟨z', y1, y2, y3⟩
    · rw [y, y0]; rfl
    · rw [y1, y2]; rfl
  · rcases m5 1 (by decide) with ⟨y, y0⟩ | ⟨z', y1, y2, y3⟩
    · rw [y, y0]; rfl
    · rw [y1, y2]; rfl
end C40
