/-! CLASS AND REFERENCE SIDE BY SIDE: the calls, 1 -/
section C39
variable {h H : ex_Hp} {X Z : Option Value → ex_Hp → Prop} {c L : Nat} {xs : Nat → Int32}
theorem p_strands {x : Int32} (hL : LI c L xs h) (hZ : ∀ k H, LSx L xs H → ex_W 107 0 [.ref 63, .int x] [] H (fun r2 h2 => r2 = some (.int k) ∧ LI (c + 1) L xs h2) → Z (some (.int k)) H) : ex_W 61 0 [.ref 1, .int x] [] h Z := by
  obtain ⟨A, N, F, v, p, lo, S, I, hR, ⟨ρ, ι, hC⟩, hM, l1, l2, l3⟩ := hL
  have h1 := hC.2.1.1.1
  have h2 := hC.2.1.1.2
  obtain ⟨_, ⟨hp, hp2, hpr⟩, hlo, hok⟩ := hC.2.1
  have hN := hC.1
  try dsimp only at h1 h2 hp hp2 hpr hlo hok
  obtain ⟨m1, m2, m3, m4, m5⟩ := id hM
  have hSl : ∀ s, s < 5 → ∀ d, S s d < p := fun s hs d => (hok s hs d).1
  have hS3 : A 1 0 = nI v ∧ A 1 1 = nI p ∧ A 1 2 = nI lo := ⟨m4.1, m4.2.1, m4.2.2.1⟩
  refine x_strands hC (fun hx H hc hI => ?_) (fun hx => ?_)
  · obtain ⟨q1, q2, q3⟩ := isW_e (by decide) (by decide) hx
    refine hZ _ H ((hR.cc hc).ls ((hc.1 0 (by omega)).trans l3)) ?_
    rw [← mdl_eta (hR.cc hc)]
    have e : ex_W 107 0 [.ref 63, .int (nI (ix x))] [] (mdl 63 A H) (fun r2 h2 => r2 = some (.int (nI (tC (ix x)))) ∧ LI (c + 1) L xs h2) := r_strands q1 q2 (fun B b1 b2 b3 b4 => ⟨rfl, LI.fin hI (hM.lay b1 b2 b4 (by rw [b3]; exact m4.clr)) hc l1 l2 l3⟩)
    rw [q3] at e
    exact e
  · refine hZ _ h (hR.ls l3) ?_
    rw [← mdl_eta hR]
    exact r_strands_no hx ⟨rfl, LI.fin ⟨ρ, ι, hC⟩ hM chC.rfl' l1 l2 l3⟩
theorem p_say {x : Int32} (hL : LI c L xs h) (hZ : ∀ k H, LSx L xs H → ex_W 108 0 [.ref 63, .int x] [] H (fun r2 h2 => r2 = some (.int k) ∧ LI (c + 1) L xs h2) → Z (some (.int k)) H) : ex_W 62 0 [.ref 1, .int x] [] h Z := by
  obtain ⟨A, N, F, v, p, lo, S, I, hR, ⟨ρ, ι, hC⟩, hM, l1, l2, l3⟩ := hL
  have h1 := hC.2.1.1.1
  have h2 := hC.2.1.1.2
  obtain ⟨_, ⟨hp, hp2, hpr⟩, hlo, hok⟩ := hC.2.1
  have hN := hC.1
  try dsimp only at h1 h2 hp hp2 hpr hlo hok
  obtain ⟨m1, m2, m3, m4, m5⟩ := id hM
  have hSl : ∀ s, s < 5 → ∀ d, S s d < p := fun s hs d => (hok s hs d).1
  have hS3 : A 1 0 = nI v ∧ A 1 1 = nI p ∧ A 1 2 = nI lo := ⟨m4.1, m4.2.1, m4.2.2.1⟩
  refine x_say hC ?_
  by_cases hx : isW 33 126 x
  · rw [if_pos hx]
    by_cases hn : N = 24
    · rw [if_pos hn]
      refine hZ _ h (hR.ls l3) ?_
      rw [← mdl_eta hR, r_say m1 hN, if_pos (show nI 33 ≤ x ∧ x ≤ nI 126 from hx), if_pos hn]
      exact ⟨rfl, LI.fin ⟨ρ, ι, hC⟩ hM chC.rfl' l1 l2 l3⟩
    · rw [if_neg hn]
      intro H hc hC2
      refine hZ _ H ((hR.cc hc).ls ((hc.1 0 (by omega)).trans l3)) ?_
      rw [← mdl_eta (hR.cc hc), r_say m1 hN, if_pos (show nI 33 ≤ x ∧ x ≤ nI 126 from hx), if_neg hn]
      refine ⟨rfl, LI.fin ⟨ρ, ι, hC2⟩ (hM.pad ?_ ?_ ?_ (fun j j1 j2 => ?_)) hc l1 l2 l3⟩
      · rw [ua_s, pk_us]
      · rw [ua_s, pk_un (by decide)]
      · rw [ua_n (by decide), ua_s, m2]
      · rw [ua_n j1, ua_n j2]
  · rw [if_neg hx]
    refine hZ _ h (hR.ls l3) ?_
    rw [← mdl_eta hR, r_say m1 hN, if_neg (show ¬ (nI 33 ≤ x ∧ x ≤ nI 126) from hx)]
    exact ⟨rfl, LI.fin ⟨ρ, ι, hC⟩ hM chC.rfl' l1 l2 l3⟩
theorem p_wipe (hL : LI c L xs h) (hZ : ∀ k H, LSx L xs H → ex_W 109 0 [.ref 63, oU] [] H (fun r2 h2 => r2 = some (.int k) ∧ LI (c + 1) L xs h2) → Z (some (.int k)) H) : ex_W 63 0 [.ref 1, oU] [] h Z := by
  obtain ⟨A, N, F, v, p, lo, S, I, hR, ⟨ρ, ι, hC⟩, hM, l1, l2, l3⟩ := hL
  have h1 := hC.2.1.1.1
  have h2 := hC.2.1.1.2
  obtain ⟨_, ⟨hp, hp2, hpr⟩, hlo, hok⟩ := hC.2.1
  have hN := hC.1
  try dsimp only at h1 h2 hp hp2 hpr hlo hok
  obtain ⟨m1, m2, m3, m4, m5⟩ := id hM
  have hSl : ∀ s, s < 5 → ∀ d, S s d < p := fun s hs d => (hok s hs d).1
  have hS3 : A 1 0 = nI v ∧ A 1 1 = nI p ∧ A 1 2 = nI lo := ⟨m4.1, m4.2.1, m4.2.2.1⟩
  refine x_wipe hC (fun H hc hC2 => ?_)
  refine hZ _ H ((hR.cc hc).ls ((hc.1 0 (by omega)).trans l3)) ?_
  rw [← mdl_eta (hR.cc hc), r_wipe, m1]
  refine ⟨rfl, LI.fin ⟨ρ, ι, hC2⟩ (hM.pad ?_ ?_ ?_ (fun j j1 j2 => ?_)) hc l1 l2 l3⟩
  · rw [ua_s, pk_us]
  · rw [ua_s, pk_un (by decide)]
  · rw [ua_n (by decide), m2]
  · rw [ua_n j1]
theorem p_fault {x : Int32} (hL : LI c L xs h) (hZ : ∀ k H, LSx L xs H → ex_W 113 0 [.ref 63, .int x] [] H (fun r2 h2 => r2 = some (.int k) ∧ LI (c + 1) L xs h2) → Z (some (.int k)) H) : ex_W 64 0 [.ref 1, .int x] [] h Z := by
  obtain ⟨A, N, F, v, p, lo, S, I, hR, ⟨ρ, ι, hC⟩, hM, l1, l2, l3⟩ := hL
  have h1 := hC.2.1.1.1
  have h2 := hC.2.1.1.2
  obtain ⟨_, ⟨hp, hp2, hpr⟩, hlo, hok⟩ := hC.2.1
  have hN := hC.1
  try dsimp only at h1 h2 hp hp2 hpr hlo hok
  obtain ⟨m1, m2, m3, m4, m5⟩ := id hM
  have hSl : ∀ s, s < 5 → ∀ d, S s d < p := fun s hs d => (hok s hs d).1
  have hS3 : A 1 0 = nI v ∧ A 1 1 = nI p ∧ A 1 2 = nI lo := ⟨m4.1, m4.2.1, m4.2.2.1⟩
  refine x_fault hC (hZ _ h (hR.ls l3) ?_)
  rw [← mdl_eta hR]
  subst m2
  exact r_fault h1 h2 hS3.1 m1 hN ⟨rfl, LI.fin ⟨ρ, ι, hC⟩ hM chC.rfl' l1 l2 l3⟩
theorem p_diagram (hL : LI c L xs h) (hZ : ∀ k H, LSx L xs H → ex_W 114 0 [.ref 63, oU, oU] [] H (fun r2 h2 => r2 = some (.int k) ∧ LI (c + 1) L xs h2) → Z (some (.int k)) H) : ex_W 65 0 [.ref 1, oU] [] h Z := by
  obtain ⟨A, N, F, v, p, lo, S, I, hR, ⟨ρ, ι, hC⟩, hM, l1, l2, l3⟩ := hL
  have h1 := hC.2.1.1.1
  have h2 := hC.2.1.1.2
  obtain ⟨_, ⟨hp, hp2, hpr⟩, hlo, hok⟩ := hC.2.1
  have hN := hC.1
  try dsimp only at h1 h2 hp hp2 hpr hlo hok
  obtain ⟨m1, m2, m3, m4, m5⟩ := id hM
  have hSl : ∀ s, s < 5 → ∀ d, S s d < p := fun s hs d => (hok s hs d).1
  have hS3 : A 1 0 = nI v ∧ A 1 1 = nI p ∧ A 1 2 = nI lo := ⟨m4.1, m4.2.1, m4.2.2.1⟩
  subst m2
  refine x_diagram hC ?_
  by_cases hd : dft (A 4) v N 0 0 0 = -6
  · rw [if_pos hd]
    intro H hc hC2
    refine hZ _ H ((hR.cc hc).ls ((hc.1 0 (by omega)).trans l3)) ?_
    rw [← mdl_eta (hR.cc hc)]
    refine r_diagram h1 h2 hS3.1 m3 m1 hN ?_
    rw [if_pos hd]
    refine ⟨rfl, LI.fin ⟨ρ, ι, hC2⟩ (hM.pad ?_ ?_ ?_ (fun j j1 j2 => ?_)) hc l1 l2 l3⟩
    · rw [ua_s, pk_us]
    · rw [ua_s, pk_un (by decide)]
    · rw [ua_n (by decide)]
    · rw [ua_n j1]
  · rw [if_neg hd]
    refine hZ _ h (hR.ls l3) ?_
    rw [← mdl_eta hR]
    refine r_diagram h1 h2 hS3.1 m3 m1 hN ?_
    rw [if_neg hd]
    exact ⟨rfl, LI.fin ⟨ρ, ι, hC⟩ hM chC.rfl' l1 l2 l3⟩
theorem p_word {x : Int32} (hL : LI c L xs h) (hZ : ∀ k H, LSx L xs H → ex_W 117 0 [.ref 63, .int x, oU, oU, oU, oU] [] H (fun r2 h2 => r2 = some (.int k) ∧ LI (c + 1) L xs h2) → Z (some (.int k)) H) : ex_W 66 0 [.ref 1, .int x, oU, oU, oU, oU] [] h Z := by
  obtain ⟨A, N, F, v, p, lo, S, I, hR, ⟨ρ, ι, hC⟩, hM, l1, l2, l3⟩ := hL
  have h1 := hC.2.1.1.1
  have h2 := hC.2.1.1.2
  obtain ⟨_, ⟨hp, hp2, hpr⟩, hlo, hok⟩ := hC.2.1
  have hN := hC.1
  try dsimp only at h1 h2 hp hp2 hpr hlo hok
  obtain ⟨m1, m2, m3, m4, m5⟩ := id hM
  have hSl : ∀ s, s < 5 → ∀ d, S s d < p := fun s hs d => (hok s hs d).1
  have hS3 : A 1 0 = nI v ∧ A 1 1 = nI p ∧ A 1 2 = nI lo := ⟨m4.1, m4.2.1, m4.2.2.1⟩
  subst m2
  refine x_word hC (fun H hc hC2 => ?_)
  refine hZ _ H ((hR.cc hc).ls ((hc.1 0 (by omega)).trans l3)) ?_
  rw [← mdl_eta (hR.cc hc)]
  exact r_word h1 h2 hS3.1 m3 m1 hN (fun f => ⟨rfl, LI.fin ⟨ρ, ι, hC2⟩ (hM.keep (mKeep.rfl'.uk (by decide))) hc l1 l2 l3⟩)
theorem p_of {x y : Int32} (hL : LI c L xs h) (hZ : ∀ k H, LSx L xs H → ex_W 122 0 [.ref 63, .int x, .int y] [] H (fun r2 h2 => r2 = some (.int k) ∧ LI (c + 1) L xs h2) → Z (some (.int k)) H) : ex_W 67 0 [.ref 1, .int x, .int y] [] h Z := by
  obtain ⟨A, N, F, v, p, lo, S, I, hR, ⟨ρ, ι, hC⟩, hM, l1, l2, l3⟩ := hL
  have h1 := hC.2.1.1.1
  have h2 := hC.2.1.1.2
  obtain ⟨_, ⟨hp, hp2, hpr⟩, hlo, hok⟩ := hC.2.1
  have hN := hC.1
  try dsimp only at h1 h2 hp hp2 hpr hlo hok
  obtain ⟨m1, m2, m3, m4, m5⟩ := id hM
  have hSl : ∀ s, s < 5 → ∀ d, S s d < p := fun s hs d => (hok s hs d).1
  have hS3 : A 1 0 = nI v ∧ A 1 1 = nI p ∧ A 1 2 = nI lo := ⟨m4.1, m4.2.1, m4.2.2.1⟩
  refine x_of hC (fun H hc hC2 => ?_)
  refine hZ _ H ((hR.cc hc).ls ((hc.1 0 (by omega)).trans l3)) ?_
  rw [← mdl_eta (hR.cc hc)]
  exact r_of h1 h2 hS3.1 m3 (fun B hB => ⟨rfl, LI.fin ⟨ρ, ι, hC2⟩ (hM.keep hB) hc l1 l2 l3⟩)
theorem p_joined {x y : Int32} (hL : LI c L xs h) (hZ : ∀ k H, LSx L xs H → ex_W 123 0 [.ref 63, .int x, .int y] [] H (fun r2 h2 => r2 = some (.int k) ∧ LI (c + 1) L xs h2) → Z (some (.int k)) H) : ex_W 68 0 [.ref 1, .int x, .int y] [] h Z := by
  obtain ⟨A, N, F, v, p, lo, S, I, hR, ⟨ρ, ι, hC⟩, hM, l1, l2, l3⟩ := hL
  have h1 := hC.2.1.1.1
  have h2 := hC.2.1.1.2
  obtain ⟨_, ⟨hp, hp2, hpr⟩, hlo, hok⟩ := hC.2.1
  have hN := hC.1
  try dsimp only at h1 h2 hp hp2 hpr hlo hok
  obtain ⟨m1, m2, m3, m4, m5⟩ := id hM
  have hSl : ∀ s, s < 5 → ∀ d, S s d < p := fun s hs d => (hok s hs d).1
  have hS3 : A 1 0 = nI v ∧ A 1 1 = nI p ∧ A 1 2 = nI lo := ⟨m4.1, m4.2.1, m4.2.2.1⟩
  refine x_joined hC (hZ _ h (hR.ls l3) ?_)
  rw [← mdl_eta hR]
  exact r_joined h1 h2 hS3.1 m3 ⟨rfl, LI.fin ⟨ρ, ι, hC⟩ hM chC.rfl' l1 l2 l3⟩
theorem p_stack {x y z : Int32} (hL : LI c L xs h) (hZ : ∀ k H, LSx L xs H → ex_W 124 0 [.ref 63, .int x, .int y, .int z] [] H (fun r2 h2 => r2 = some (.int k) ∧ LI (c + 1) L xs h2) → Z (some (.int k)) H) : ex_W 69 0 [.ref 1, .int x, .int y, .int z] [] h Z := by
  obtain ⟨A, N, F, v, p, lo, S, I, hR, ⟨ρ, ι, hC⟩, hM, l1, l2, l3⟩ := hL
  have h1 := hC.2.1.1.1
  have h2 := hC.2.1.1.2
  obtain ⟨_, ⟨hp, hp2, hpr⟩, hlo, hok⟩ := hC.2.1
  have hN := hC.1
  try dsimp only at h1 h2 hp hp2 hpr hlo hok
  obtain ⟨m1, m2, m3, m4, m5⟩ := id hM
  have hSl : ∀ s, s < 5 → ∀ d, S s d < p := fun s hs d => (hok s hs d).1
  have hS3 : A 1 0 = nI v ∧ A 1 1 = nI p ∧ A 1 2 = nI lo := ⟨m4.1, m4.2.1, m4.2.2.1⟩
  refine x_stack hC (fun H hc hC2 => ?_)
  refine hZ _ H ((hR.cc hc).ls ((hc.1 0 (by omega)).trans l3)) ?_
  rw [← mdl_eta (hR.cc hc)]
  exact r_stack h1 h2 m3 ⟨rfl, LI.fin ⟨ρ, ι, hC2⟩ hM hc l1 l2 l3⟩
theorem p_way {x y : Int32} (hL : LI c L xs h) (hZ : ∀ k H, LSx L xs H → ex_W 125 0 [.ref 63, .int x, .int y, oU] [] H (fun r2 h2 => r2 = some (.int k) ∧ LI (c + 1) L xs h2) → Z (some (.int k)) H) : ex_W 70 0 [.ref 1, .int x, .int y] [] h Z := by
  obtain ⟨A, N, F, v, p, lo, S, I, hR, ⟨ρ, ι, hC⟩, hM, l1, l2, l3⟩ := hL
  have h1 := hC.2.1.1.1
  have h2 := hC.2.1.1.2
  obtain ⟨_, ⟨hp, hp2, hpr⟩, hlo, hok⟩ := hC.2.1
  have hN := hC.1
  try dsimp only at h1 h2 hp hp2 hpr hlo hok
  obtain ⟨m1, m2, m3, m4, m5⟩ := id hM
  have hSl : ∀ s, s < 5 → ∀ d, S s d < p := fun s hs d => (hok s hs d).1
  have hS3 : A 1 0 = nI v ∧ A 1 1 = nI p ∧ A 1 2 = nI lo := ⟨m4.1, m4.2.1, m4.2.2.1⟩
  refine x_way hC (hZ _ h (hR.ls l3) ?_)
  rw [← mdl_eta hR]
  exact r_way h1 h2 hS3.1 m3 (fun B hB => ⟨rfl, LI.fin ⟨ρ, ι, hC⟩ (hM.keep hB) chC.rfl' l1 l2 l3⟩)
theorem p_prime {x y : Int32} (hL : LI c L xs h) (hZ : ∀ k H, LSx L xs H → ex_W 130 0 [.ref 63, .int x, .int y, oU] [] H (fun r2 h2 => r2 = some (.int k) ∧ LI (c + 1) L xs h2) → Z (some (.int k)) H) : ex_W 71 0 [.ref 1, .int x, .int y, oU] [] h Z := by
  obtain ⟨A, N, F, v, p, lo, S, I, hR, ⟨ρ, ι, hC⟩, hM, l1, l2, l3⟩ := hL
  have h1 := hC.2.1.1.1
  have h2 := hC.2.1.1.2
  obtain ⟨_, ⟨hp, hp2, hpr⟩, hlo, hok⟩ := hC.2.1
  have hN := hC.1
  try dsimp only at h1 h2 hp hp2 hpr hlo hok
  obtain ⟨m1, m2, m3, m4, m5⟩ := id hM
  have hSl : ∀ s, s < 5 → ∀ d, S s d < p := fun s hs d => (hok s hs d).1
  have hS3 : A 1 0 = nI v ∧ A 1 1 = nI p ∧ A 1 2 = nI lo := ⟨m4.1, m4.2.1, m4.2.2.1⟩
  refine x_prime hC (fun hx H hc hC2 => ?_) (fun hx => ?_)
  · refine hZ _ H ((hR.cc hc).ls ((hc.1 0 (by omega)).trans l3)) ?_
    obtain ⟨q1, q2, q3⟩ := isW_e (by decide) (by decide) hx.1.1
    obtain ⟨_, r2, r3⟩ := isW_e (by decide) (by omega) hx.2
    rw [← mdl_eta (hR.cc hc)]
    refine r_prime hx ?_
    have e := m4.clr2 (x := ix x) (y := ix y)
    rw [q3, r3] at e
    refine ⟨by rw [hS3.2.1], LI.fin ⟨ρ, ι, hC2⟩ ?_ hc l1 l2 l3⟩
    refine ⟨by rw [ua_n (by decide)]; exact m1, by rw [ua_n (by decide)]; exact m2, m3.ua (by decide) (by decide) (by decide) (by decide) (by decide), by rw [ua_s]; exact e, ?_⟩
    rw [ua_n (show ¬ 3 = 1 by decide), ua_n (show ¬ 2 = 1 by decide)]
    exact m5
  · refine hZ _ h (hR.ls l3) ?_
    rw [← mdl_eta hR]
    exact r_prime_no hx ⟨rfl, LI.fin ⟨ρ, ι, hC⟩ hM chC.rfl' l1 l2 l3⟩
end C39
