/-! THE REFERENCE: sums -/
def updN (W : Nat → Nat) (k x : Nat) : Nat → Nat := fun j => if j = k then x else W j
def pilB (v p lo : Nat) (L R : Nat → Nat) (a : Nat) : Nat → Nat → (Nat → Nat) → Nat → Nat
  | 0, _, W => W
  | n + 1, b, W => pilB v p lo L R a n (b + 1) (updN W (tP v a b) ((W (tP v a b) + L a * R b % p * (lo ^ tQ v a b % p) % p) % p))
def pilA (v p lo : Nat) (L R : Nat → Nat) : Nat → Nat → (Nat → Nat) → Nat → Nat
  | 0, _, W => W
  | n + 1, a, W => pilA v p lo L R n (a + 1) (pilB v p lo L R a (tC v) 0 W)
def pil (v p lo : Nat) (L R : Nat → Nat) : Nat → Nat := pilA v p lo L R (tC v) 0 (fun _ => 0)
theorem pilB_lt {v p lo a : Nat} {L R : Nat → Nat} (hp : 0 < p) : ∀ (n b : Nat) (W : Nat → Nat), (∀ d, W d < p) → ∀ d, pilB v p lo L R a n b W d < p := by
  intro n
  induction n with
  | zero => intro b W hW d; exact hW d
  | succ n ih =>
    intro b W hW d
    rw [pilB]
    refine ih _ _ (fun e => ?_) d
    unfold updN
    split
    · exact Nat.mod_lt _ hp
    · exact hW e
theorem pilA_lt {v p lo : Nat} {L R : Nat → Nat} (hp : 0 < p) : ∀ (n a : Nat) (W : Nat → Nat), (∀ d, W d < p) → ∀ d, pilA v p lo L R n a W d < p := by
  intro n
  induction n with
  | zero => intro b W hW d; exact hW d
  | succ n ih => intro a W hW d; exact ih _ _ (pilB_lt hp _ _ _ hW) d
theorem pil_lt {v p lo d : Nat} {L R : Nat → Nat} (hp : 0 < p) : pil v p lo L R d < p := pilA_lt hp _ _ _ (fun _ => hp) d
def cntP (W : Nat → Nat) : Nat → Nat
  | 0 => 0
  | n + 1 => cntP W n + (if 0 < W n then 1 else 0)
def gvF (s n : Nat) (f w : Nat → Int32) : Nat → Int32 := fun j => if 3 + 42 * s ≤ j ∧ j < 3 + 42 * s + n then w (j - (3 + 42 * s)) else f j
theorem gvF_s {s t : Nat} {f w : Nat → Int32} : upd (gvF s t f w) (3 + 42 * s + t) (w t) = gvF s (t + 1) f w := by
  funext j
  by_cases hj : j = 3 + 42 * s + t
  · rw [hj, pk_us]
    unfold gvF
    rw [if_pos (by omega), show 3 + 42 * s + t - (3 + 42 * s) = t by omega]
  · rw [pk_un hj]
    unfold gvF
    by_cases hc : 3 + 42 * s ≤ j ∧ j < 3 + 42 * s + t
    · rw [if_pos hc, if_pos (by omega)]
    · rw [if_neg hc, if_neg (by omega)]
theorem gvF_0 {s : Nat} {f w : Nat → Int32} : gvF s 0 f w = f := by
  funext j
  unfold gvF
  rw [if_neg (by omega)]
def setS (S : Nat → Nat → Nat) (s n : Nat) (W : Nat → Nat) : Nat → Nat → Nat := fun q d => if q = s ∧ d < n then W d else S q d
theorem mSt.gv {v p lo s n : Nat} {S : Nat → Nat → Nat} {W : Nat → Nat} {f w : Nat → Int32} (h : mSt v p lo S f) (hn : n ≤ 42) (hw : ∀ d, d < n → w d = nI (W d)) : mSt v p lo (setS S s n W) (gvF s n f w) := by
  obtain ⟨a1, a2, a3, a4⟩ := h
  refine ⟨?_, ?_, ?_, fun q hq d hd => ?_⟩
  · unfold gvF; rw [if_neg (by omega)]; exact a1
  · unfold gvF; rw [if_neg (by omega)]; exact a2
  · unfold gvF; rw [if_neg (by omega)]; exact a3
  · unfold gvF setS
    by_cases hc : q = s ∧ d < n
    · rw [if_pos hc, if_pos (by omega), ← hw d hc.2]
      exact congrArg w (by omega)
    · rw [if_neg hc, if_neg (by omega)]
      exact a4 q hq d hd
def bkp (p lo : Nat) : Nat → Nat × Nat
  | 0 => (0, 1)
  | n + 1 => ((bkp p lo n).2, (lo * (bkp p lo n).2 + p - (bkp p lo n).1) % p)
def bk (p lo k : Nat) : Nat := (bkp p lo k).1
theorem bkp_lt {p lo : Nat} (hp : 2 ≤ p) : ∀ k, (bkp p lo k).1 < p ∧ (bkp p lo k).2 < p := by
  intro k
  induction k with
  | zero => exact ⟨show 0 < p by omega, show 1 < p by omega⟩
  | succ k ih => exact ⟨ih.2, Nat.mod_lt _ (by omega)⟩
def invL (p x : Nat) : Nat → Nat → Nat
  | 0, _ => 0
  | n + 1, w => if x * w % p = 1 then w else invL p x n (w + 1)
def iv (p x : Nat) : Nat := invL p x (p - 1) 1
theorem iv_k : allN 102 (fun p => decide (p < 2) || !(prT p) || allN p (fun x => decide (x = 0) || decide (iv p x ≠ 0 ∧ iv p x < p ∧ x * iv p x % p = 1))) = true := by decide +kernel
theorem iv_ok {p x : Nat} (hp : 2 ≤ p) (hp2 : p ≤ 101) (hpr : prT p = true) (hx : x < p) (hx0 : x ≠ 0) : iv p x ≠ 0 ∧ iv p x < p ∧ x * iv p x % p = 1 := by
  have q := allN_of iv_k (show p < 102 by omega)
  rw [Bool.or_eq_true, Bool.or_eq_true, decide_eq_true_eq] at q
  rcases q with (q | q) | q
  · omega
  · rw [hpr] at q; cases q
  · have q := allN_of q hx
    rw [Bool.or_eq_true, decide_eq_true_eq, decide_eq_true_eq] at q
    exact q.resolve_left hx0
theorem nF_g {p a b : Nat} (hp : 2 ≤ p) (hp2 : p ≤ 101) (ha : a < 1073741824) (hb : b < 1073741824) : nF (nI p) (nI a - nI b) = nI ((a + p - b % p) % p) := by
  apply Int32.toInt_inj.mp
  have hm := Nat.mod_lt (a + p - b % p) (show p > 0 by omega)
  have hbm := Nat.mod_lt b (show p > 0 by omega)
  rw [nF_int hp (by omega), pk_sub_toInt (by simpa using ha) (by simpa using hb), nI_toInt (by have e : (2:Nat)^31 = 2147483648 := rfl; omega)]
  have e1 : ((a + p - b % p : Nat) : Int) = (a : Int) - b + p * (1 + (b / p : Nat)) := by
    have := Nat.div_add_mod b p
    have e2 : (b : Int) = p * (b / p : Nat) + (b % p : Nat) := by rw [← Int.natCast_mul, ← Int.natCast_add, this]
    rw [Int.mul_add, Int.mul_one, e2]
    omega
  rw [Int.natCast_emod, e1, Int.add_mul_emod_self_left]
def aGrow (v p lo n : Nat) (P : Nat → Nat) : Nat → Nat := fun d => (P d + p - (bk p lo n * iv p (bk p lo (n + 1)) % p * pil v p lo (pil v p lo P (fun e => if e = tHk v n then 1 else 0)) P d) % p) % p
def prj (v p lo : Nat) : Nat → Nat → Nat
  | 0 => fun d => if d = 0 then 1 else 0
  | k + 1 => aGrow v p lo (k + 1) (prj v p lo k)
theorem prj_lt {v p lo : Nat} (hp : 2 ≤ p) : ∀ (k d : Nat), prj v p lo k d < p := by
  intro k d
  cases k with
  | zero =>
    show (if d = 0 then 1 else 0) < p
    split <;> omega
  | succ k => exact Nat.mod_lt _ (by omega)
def hpj (p lo : Nat) : Nat → Nat → Bool
  | 0, _ => true
  | n + 1, k => decide (bk p lo k ≠ 0) && hpj p lo n (k + 1)
theorem hpj_ok {p lo : Nat} : ∀ (n k : Nat), hpj p lo n k = true → ∀ j, k ≤ j → j < k + n → bk p lo j ≠ 0 := by
  intro n
  induction n with
  | zero => intro k _ j h1 h2; omega
  | succ n ih =>
    intro k h j h1 h2
    rw [hpj, Bool.and_eq_true, decide_eq_true_eq] at h
    by_cases hj : j = k
    · rw [hj]; exact h.1
    · exact ih (k + 1) h.2 j (by omega) (by omega)
def trc (v p lo : Nat) (W : Nat → Nat) : Nat → Nat → Nat → Nat
  | 0, _, acc => acc
  | n + 1, d, acc => trc v p lo W n (d + 1) ((acc + W d * (lo ^ tCl v d % p)) % p)
section M9
variable {M : Nat} {A : Nat → Nat → Int32} {g h : ex_Hp} {X : Option Value → ex_Hp → Prop} {v a b d p lo s : Nat} {f0 : Nat → Int32} {S : Nat → Nat → Nat}
theorem l_give {W : Nat → Nat} (h1 : 1 ≤ v) (h2 : v ≤ 5) (hT : A 0 1 = nI (tC v)) (hs : s < 5) (hW : ∀ d, d < tC v → A 16 d = nI (W d)) (hWl : ∀ d, W d < 1000) (hX : X (some (.int (nI (cntP W (tC v))))) (mdl M (ua A 1 (gvF s (tC v) (A 1) (A 16))) g)) : ∀ (n t : Nat), n + t = tC v → ex_W 134 4 [.ref M, .int (nI s), .int (nI (cntP W t)), .int (nI t)] [] (mdl M (ua A 1 (gvF s t (A 1) (A 16))) g) X := by
  have hC := tC_le h1 h2
  intro n
  induction n with
  | zero =>
    intro t hn
    obtain rfl : t = tC v := by omega
    rw [s134_4]
    simp only [s134_0, s134_1, s134_2, s134_3, s134_5, s134_6, s134_9, s134_12, s134_13, s134_16, s134_17, s134_18, s134_19, s134_22, s134_23, s134_26, s134_27, s134_28, s134_29, s134_30, s134_31, s134_34, s134_35, s134_36, s134_39, s134_40, s134_43, s134_44, s134_45, s134_46, s134_49, s134_52, s134_53, mis, mg1, mg2, mg3, mg4, mg5, mg6, mg7, mg8, mg9, mg10, mg11, mg12, mg13, mg14, mg15, mg16, mg17, mg18, mg19, mg20, mg21, mg22, ms1, ms2, ms3, ms4, ms5, ms6, ms7, ms8, ms9, ms10, ms11, ms12, ms13, ms14, ms15, ms16, ms17, ms18, ms19, ms20, ms21, ms22, mf0, mf1, mf2, mf3, mf4, mf5, mf6, mf7, mf8, mf9, mf10, mf11, mf12, mf13, mf14, mf15, mf16, mf17, mf18, mf19, mf20, mf21, mf22, mf23, mf24, mf25, mf26, mp4, mp7, mp22, mp25, mp26, mq_0, al_I, as_I, zl_Z, zs_0, zs_1, Nat.reduceAdd, Nat.reduceLeDiff, Nat.zero_le, cat_0, cat_i, cat_r, opt_n, opt_s, true_and, nI_add, pk_mul, ua_ua, ua_s, ua_n, not_false_eq_true, Nat.reduceEqDiff, hT]
    rw [if_pos ((nI_l1 (by omega) (by omega)).mpr (by omega))]
    exact hX
  | succ n ih =>
    intro t hn
    have hl := hWl t
    have he := gvF_s (s := s) (t := t) (f := A 1) (w := A 16)
    have hw := hW t (by omega)
    rw [hw] at he
    rw [s134_4]
    simp only [s134_0, s134_1, s134_2, s134_3, s134_5, s134_6, s134_9, s134_12, s134_13, s134_16, s134_17, s134_18, s134_19, s134_22, s134_23, s134_26, s134_27, s134_28, s134_29, s134_30, s134_31, s134_34, s134_35, s134_36, s134_39, s134_40, s134_43, s134_44, s134_45, s134_46, s134_49, s134_52, s134_53, mis, mg1, mg2, mg3, mg4, mg5, mg6, mg7, mg8, mg9, mg10, mg11, mg12, mg13, mg14, mg15, mg16, mg17, mg18, mg19, mg20, mg21, mg22, ms1, ms2, ms3, ms4, ms5, ms6, ms7, ms8, ms9, ms10, ms11, ms12, ms13, ms14, ms15, ms16, ms17, ms18, ms19, ms20, ms21, ms22, mf0, mf1, mf2, mf3, mf4, mf5, mf6, mf7, mf8, mf9, mf10, mf11, mf12, mf13, mf14, mf15, mf16, mf17, mf18, mf19, mf20, mf21, mf22, mf23, mf24, mf25, mf26, mp4, mp7, mp22, mp25, mp26, mq_0, al_I, as_I, zl_Z, zs_0, zs_1, Nat.reduceAdd, Nat.reduceLeDiff, Nat.zero_le, cat_0, cat_i, cat_r, opt_n, opt_s, true_and, nI_add, pk_mul, ua_ua, ua_s, ua_n, not_false_eq_true, Nat.reduceEqDiff, hT, r_place, xi_n (show 3 + 42 * s + t < 213 by omega) (show 213 < 2147483648 by decide), xi_n (show t < 42 by omega) (show 42 < 2147483648 by decide), hw, he]
    rw [if_neg (fun z => absurd ((nI_l1 (by omega) (by omega)).mp z) (by omega))]
    have := ih (t + 1) (by omega)
    rw [cntP] at this
    by_cases hc : 0 < W t
    · rw [if_pos hc] at this
      rw [if_neg (fun z => absurd ((nI_l1 (by omega) (by omega)).mp z) (by omega))]
      exact this
    · rw [if_neg hc] at this
      rw [if_pos ((nI_l1 (by omega) (by omega)).mpr (by omega))]
      exact this
theorem r_give {W : Nat → Nat} (h1 : 1 ≤ v) (h2 : v ≤ 5) (hT : A 0 1 = nI (tC v)) (hs : s < 5) (hW : ∀ d, d < tC v → A 16 d = nI (W d)) (hWl : ∀ d, W d < 1000) (hX : X (some (.int (nI (cntP W (tC v))))) (mdl M (ua A 1 (gvF s (tC v) (A 1) (A 16))) g)) : ex_W 134 0 [.ref M, .int (nI s), oU, oU] [] (mdl M A g) X := by
  rw [s134_0, s134_1, s134_2, s134_3]
  have := l_give (M := M) (A := A) (g := g) (X := X) h1 h2 hT hs hW hWl hX (tC v) 0 (by omega)
  rw [gvF_0, ua_id] at this
  exact this
theorem l_ss35 {L R : Nat → Nat} (h1 : 1 ≤ v) (h2 : v ≤ 5) (hp : 2 ≤ p) (hp2 : p ≤ 101) (hlo : lo < p) (hT : mTab v A) (hp1 : A 1 1 = nI p) (hl1 : A 1 2 = nI lo) (ha : a < tC v) (hL : ∀ d, d < tC v → A 17 d = nI (L d)) (hR : ∀ d, d < tC v → A 18 d = nI (R d)) (hLl : ∀ d, L d < p) (hRl : ∀ d, R d < p) : ∀ (n t : Nat) (W : Nat → Nat) (f : Nat → Int32) (l3 l4 : Value), n + t = tC v → (∀ d, W d < p) → (∀ d, d < tC v → f d = nI (W d)) → (∀ f l3 l4, (∀ d, d < tC v → f d = nI (pilB v p lo L R a n t W d)) → ex_W 135 120 [.ref M, .int (nI a), .int (nI (tC v)), l3, l4] [] (mdl M (ua A 16 f) g) X) → ex_W 135 35 [.ref M, .int (nI a), .int (nI t), l3, l4] [] (mdl M (ua A 16 f) g) X := by
  have hC := tC_le h1 h2
  intro n
  induction n with
  | zero =>
    intro t W f l3 l4 hn hW hf hX
    obtain rfl : t = tC v := by omega
    rw [s135_35]
    simp only [s135_0, s135_1, s135_2, s135_3, s135_4, s135_7, s135_10, s135_11, s135_14, s135_15, s135_16, s135_17, s135_20, s135_23, s135_24, s135_25, s135_26, s135_27, s135_30, s135_33, s135_34, s135_36, s135_37, s135_40, s135_43, s135_44, s135_45, s135_46, s135_49, s135_50, s135_51, s135_52, s135_55, s135_56, s135_57, s135_58, s135_61, s135_62, s135_63, s135_66, s135_68, s135_69, s135_70, s135_71, s135_72, s135_73, s135_76, s135_77, s135_80, s135_81, s135_82, s135_85, s135_87, s135_88, s135_89, s135_90, s135_91, s135_92, s135_94, s135_95, s135_98, s135_100, s135_101, s135_102, s135_105, s135_107, s135_108, s135_109, s135_110, s135_113, s135_114, s135_117, s135_123, s135_126, mis, mg1, mg2, mg3, mg4, mg5, mg6, mg7, mg8, mg9, mg10, mg11, mg12, mg13, mg14, mg15, mg16, mg17, mg18, mg19, mg20, mg21, mg22, ms1, ms2, ms3, ms4, ms5, ms6, ms7, ms8, ms9, ms10, ms11, ms12, ms13, ms14, ms15, ms16, ms17, ms18, ms19, ms20, ms21, ms22, mf0, mf1, mf2, mf3, mf4, mf5, mf6, mf7, mf8, mf9, mf10, mf11, mf12, mf13, mf14, mf15, mf16, mf17, mf18, mf19, mf20, mf21, mf22, mf23, mf24, mf25, mf26, mp4, mp7, mp22, mp25, mp26, mq_0, al_I, as_I, zl_Z, zs_0, zs_1, Nat.reduceAdd, Nat.reduceLeDiff, Nat.zero_le, cat_0, cat_i, cat_r, opt_n, opt_s, true_and, nI_add, pk_mul, ua_ua, ua_s, ua_n, not_false_eq_true, Nat.reduceEqDiff, hT.1]
    rw [if_pos ((nI_l1 (by omega) (by omega)).mpr (by omega))]
    exact hX f _ _ hf
  | succ n ih =>
    intro t W f l3 l4 hn hW hf hX
    have ht : t < tC v := by omega
    have hP := tP_lt h1 h2 ha ht
    have hab := hT.2.2.2 a ha t ht
    have b1 : L a * R t < 2147483648 := by
      have : L a * R t ≤ 101 * 101 := Nat.mul_le_mul (by have := hLl a; omega) (by have := hRl t; omega)
      omega
    have b2 : L a * R t % p < p := Nat.mod_lt _ (by omega)
    have b3 : lo ^ tQ v a t % p < p := Nat.mod_lt _ (by omega)
    have b4 : L a * R t % p * (lo ^ tQ v a t % p) < 2147483648 := by
      have : L a * R t % p * (lo ^ tQ v a t % p) ≤ 101 * 101 := Nat.mul_le_mul (by omega) (by omega)
      omega
    have b5 : L a * R t % p * (lo ^ tQ v a t % p) % p < p := Nat.mod_lt _ (by omega)
    have b6 : W (tP v a t) + L a * R t % p * (lo ^ tQ v a t % p) % p < 2147483648 := by have := hW (tP v a t); omega
    have hp1' : (ua A 16 f) 1 1 = nI p := by rw [ua_n (by decide)]; exact hp1
    have hl1' : (ua A 16 f) 1 2 = nI lo := by rw [ua_n (by decide)]; exact hl1
    rw [pilB] at hX
    rw [s135_35]
    simp only [s135_0, s135_1, s135_2, s135_3, s135_4, s135_7, s135_10, s135_11, s135_14, s135_15, s135_16, s135_17, s135_20, s135_23, s135_24, s135_25, s135_26, s135_27, s135_30, s135_33, s135_34, s135_36, s135_37, s135_40, s135_43, s135_44, s135_45, s135_46, s135_49, s135_50, s135_51, s135_52, s135_55, s135_56, s135_57, s135_58, s135_61, s135_62, s135_63, s135_66, s135_68, s135_69, s135_70, s135_71, s135_72, s135_73, s135_76, s135_77, s135_80, s135_81, s135_82, s135_85, s135_87, s135_88, s135_89, s135_90, s135_91, s135_92, s135_94, s135_95, s135_98, s135_100, s135_101, s135_102, s135_105, s135_107, s135_108, s135_109, s135_110, s135_113, s135_114, s135_117, s135_123, s135_126, mis, mg1, mg2, mg3, mg4, mg5, mg6, mg7, mg8, mg9, mg10, mg11, mg12, mg13, mg14, mg15, mg16, mg17, mg18, mg19, mg20, mg21, mg22, ms1, ms2, ms3, ms4, ms5, ms6, ms7, ms8, ms9, ms10, ms11, ms12, ms13, ms14, ms15, ms16, ms17, ms18, ms19, ms20, ms21, ms22, mf0, mf1, mf2, mf3, mf4, mf5, mf6, mf7, mf8, mf9, mf10, mf11, mf12, mf13, mf14, mf15, mf16, mf17, mf18, mf19, mf20, mf21, mf22, mf23, mf24, mf25, mf26, mp4, mp7, mp22, mp25, mp26, mq_0, al_I, as_I, zl_Z, zs_0, zs_1, Nat.reduceAdd, Nat.reduceLeDiff, Nat.zero_le, cat_0, cat_i, cat_r, opt_n, opt_s, true_and, nI_add, pk_mul, ua_ua, ua_s, ua_n, not_false_eq_true, Nat.reduceEqDiff, hT.1, xi_n (show a < 42 by omega) (show 42 < 2147483648 by decide), xi_n (show t < 42 by omega) (show 42 < 2147483648 by decide), hL a ha, hR t ht, r_by hp hp2 hp1', nF_n hp (show p < 32768 by omega) b1, xi_n (show 42 * a + t < 1764 by omega) (show 1764 < 2147483648 by decide), hab.1, hab.2]
    rw [if_neg (fun z => absurd ((nI_l1 (by omega) (by omega)).mp z) (by omega))]
    refine r_loopTimes hp hp2 hp1' hl1' hlo (by omega) ?_
    simp only [s135_0, s135_1, s135_2, s135_3, s135_4, s135_7, s135_10, s135_11, s135_14, s135_15, s135_16, s135_17, s135_20, s135_23, s135_24, s135_25, s135_26, s135_27, s135_30, s135_33, s135_34, s135_36, s135_37, s135_40, s135_43, s135_44, s135_45, s135_46, s135_49, s135_50, s135_51, s135_52, s135_55, s135_56, s135_57, s135_58, s135_61, s135_62, s135_63, s135_66, s135_68, s135_69, s135_70, s135_71, s135_72, s135_73, s135_76, s135_77, s135_80, s135_81, s135_82, s135_85, s135_87, s135_88, s135_89, s135_90, s135_91, s135_92, s135_94, s135_95, s135_98, s135_100, s135_101, s135_102, s135_105, s135_107, s135_108, s135_109, s135_110, s135_113, s135_114, s135_117, s135_123, s135_126, mis, mg1, mg2, mg3, mg4, mg5, mg6, mg7, mg8, mg9, mg10, mg11, mg12, mg13, mg14, mg15, mg16, mg17, mg18, mg19, mg20, mg21, mg22, ms1, ms2, ms3, ms4, ms5, ms6, ms7, ms8, ms9, ms10, ms11, ms12, ms13, ms14, ms15, ms16, ms17, ms18, ms19, ms20, ms21, ms22, mf0, mf1, mf2, mf3, mf4, mf5, mf6, mf7, mf8, mf9, mf10, mf11, mf12, mf13, mf14, mf15, mf16, mf17, mf18, mf19, mf20, mf21, mf22, mf23, mf24, mf25, mf26, mp4, mp7, mp22, mp25, mp26, mq_0, al_I, as_I, zl_Z, zs_0, zs_1, Nat.reduceAdd, Nat.reduceLeDiff, Nat.zero_le, cat_0, cat_i, cat_r, opt_n, opt_s, true_and, nI_add, pk_mul, ua_ua, ua_s, ua_n, not_false_eq_true, Nat.reduceEqDiff, r_by hp hp2 hp1', nF_n hp (show p < 32768 by omega) b4, xi_n (show 42 * a + t < 1764 by omega) (show 1764 < 2147483648 by decide), hab.1, xi_n (show tP v a t < 42 by omega) (show 42 < 2147483648 by decide), hf _ hP.1, nF_n hp (show p < 32768 by omega) b6]
    refine ih (t + 1) _ _ _ _ (by omega) (fun e => ?_) (fun e he => ?_) hX
    · unfold updN
      split
      · exact Nat.mod_lt _ (by omega)
      · exact hW e
    · unfold updN
      by_cases hc : e = tP v a t
      · rw [if_pos hc, hc, pk_us]
      · rw [if_neg hc, pk_un hc]
        exact hf e he
theorem l_ss25 {L R : Nat → Nat} (h1 : 1 ≤ v) (h2 : v ≤ 5) (hp : 2 ≤ p) (hp2 : p ≤ 101) (hlo : lo < p) (hT : mTab v A) (hp1 : A 1 1 = nI p) (hl1 : A 1 2 = nI lo) (hL : ∀ d, d < tC v → A 17 d = nI (L d)) (hR : ∀ d, d < tC v → A 18 d = nI (R d)) (hLl : ∀ d, L d < p) (hRl : ∀ d, R d < p) : ∀ (n t : Nat) (W : Nat → Nat) (f : Nat → Int32) (l2 l3 l4 : Value), n + t = tC v → (∀ d, W d < p) → (∀ d, d < tC v → f d = nI (W d)) → (∀ f, (∀ d, d < tC v → f d = nI (pilA v p lo L R n t W d)) → X none (mdl M (ua A 16 f) g)) → ex_W 135 25 [.ref M, .int (nI t), l2, l3, l4] [] (mdl M (ua A 16 f) g) X := by
  have hC := tC_le h1 h2
  intro n
  induction n with
  | zero =>
    intro t W f l2 l3 l4 hn hW hf hX
    obtain rfl : t = tC v := by omega
    rw [s135_25]
    simp only [s135_0, s135_1, s135_2, s135_3, s135_4, s135_7, s135_10, s135_11, s135_14, s135_15, s135_16, s135_17, s135_20, s135_23, s135_24, s135_26, s135_27, s135_30, s135_33, s135_34, s135_36, s135_37, s135_40, s135_43, s135_44, s135_45, s135_46, s135_49, s135_50, s135_51, s135_52, s135_55, s135_56, s135_57, s135_58, s135_61, s135_62, s135_63, s135_66, s135_68, s135_69, s135_70, s135_71, s135_72, s135_73, s135_76, s135_77, s135_80, s135_81, s135_82, s135_85, s135_87, s135_88, s135_89, s135_90, s135_91, s135_92, s135_94, s135_95, s135_98, s135_100, s135_101, s135_102, s135_105, s135_107, s135_108, s135_109, s135_110, s135_113, s135_114, s135_117, s135_120, s135_123, s135_126, mis, mg1, mg2, mg3, mg4, mg5, mg6, mg7, mg8, mg9, mg10, mg11, mg12, mg13, mg14, mg15, mg16, mg17, mg18, mg19, mg20, mg21, mg22, ms1, ms2, ms3, ms4, ms5, ms6, ms7, ms8, ms9, ms10, ms11, ms12, ms13, ms14, ms15, ms16, ms17, ms18, ms19, ms20, ms21, ms22, mf0, mf1, mf2, mf3, mf4, mf5, mf6, mf7, mf8, mf9, mf10, mf11, mf12, mf13, mf14, mf15, mf16, mf17, mf18, mf19, mf20, mf21, mf22, mf23, mf24, mf25, mf26, mp4, mp7, mp22, mp25, mp26, mq_0, al_I, as_I, zl_Z, zs_0, zs_1, Nat.reduceAdd, Nat.reduceLeDiff, Nat.zero_le, cat_0, cat_i, cat_r, opt_n, opt_s, true_and, nI_add, pk_mul, ua_ua, ua_s, ua_n, not_false_eq_true, Nat.reduceEqDiff, hT.1]
    rw [if_pos ((nI_l1 (by omega) (by omega)).mpr (by omega))]
    exact hX f hf
  | succ n ih =>
    intro t W f l2 l3 l4 hn hW hf hX
    rw [pilA] at hX
    rw [s135_25]
    simp only [s135_0, s135_1, s135_2, s135_3, s135_4, s135_7, s135_10, s135_11, s135_14, s135_15, s135_16, s135_17, s135_20, s135_23, s135_24, s135_26, s135_27, s135_30, s135_33, s135_34, s135_36, s135_37, s135_40, s135_43, s135_44, s135_45, s135_46, s135_49, s135_50, s135_51, s135_52, s135_55, s135_56, s135_57, s135_58, s135_61, s135_62, s135_63, s135_66, s135_68, s135_69, s135_70, s135_71, s135_72, s135_73, s135_76, s135_77, s135_80, s135_81, s135_82, s135_85, s135_87, s135_88, s135_89, s135_90, s135_91, s135_92, s135_94, s135_95, s135_98, s135_100, s135_101, s135_102, s135_105, s135_107, s135_108, s135_109, s135_110, s135_113, s135_114, s135_117, s135_120, s135_123, s135_126, mis, mg1, mg2, mg3, mg4, mg5, mg6, mg7, mg8, mg9, mg10, mg11, mg12, mg13, mg14, mg15, mg16, mg17, mg18, mg19, mg20, mg21, mg22, ms1, ms2, ms3, ms4, ms5, ms6, ms7, ms8, ms9, ms10, ms11, ms12, ms13, ms14, ms15, ms16, ms17, ms18, ms19, ms20, ms21, ms22, mf0, mf1, mf2, mf3, mf4, mf5, mf6, mf7, mf8, mf9, mf10, mf11, mf12, mf13, mf14, mf15, mf16, mf17, mf18, mf19, mf20, mf21, mf22, mf23, mf24, mf25, mf26, mp4, mp7, mp22, mp25, mp26, mq_0, al_I, as_I, zl_Z, zs_0, zs_1, Nat.reduceAdd, Nat.reduceLeDiff, Nat.zero_le, cat_0, cat_i, cat_r, opt_n, opt_s, true_and, nI_add, pk_mul, ua_ua, ua_s, ua_n, not_false_eq_true, Nat.reduceEqDiff, hT.1]
    rw [if_neg (fun z => absurd ((nI_l1 (by omega) (by omega)).mp z) (by omega))]
    refine l_ss35 h1 h2 hp hp2 hlo hT hp1 hl1 (show t < tC v by omega) hL hR hLl hRl (tC v) 0 W f _ _ (by omega) hW hf (fun f' l3 l4 hf' => ?_)
    simp only [s135_120, s135_123, nI_add]
    exact ih (t + 1) _ f' _ _ _ (by omega) (pilB_lt (by omega) _ _ _ hW) hf' hX
theorem l_ss2 {l2 l3 l4 : Value} (h1 : 1 ≤ v) (h2 : v ≤ 5) (hT : mTab v A) (hX : ∀ f : Nat → Int32, (∀ d, d < tC v → f d = nI 0) → ex_W 135 23 [.ref M, .int (nI (tC v)), l2, l3, l4] [] (mdl M (ua A 16 f) g) X) : ∀ (n t : Nat) (f : Nat → Int32), n + t = tC v → (∀ d, d < t → f d = nI 0) → ex_W 135 2 [.ref M, .int (nI t), l2, l3, l4] [] (mdl M (ua A 16 f) g) X := by
  have hC := tC_le h1 h2
  intro n
  induction n with
  | zero =>
    intro t f hn hf
    obtain rfl : t = tC v := by omega
    rw [s135_2]
    simp only [s135_0, s135_1, s135_3, s135_4, s135_7, s135_10, s135_11, s135_14, s135_15, s135_16, s135_17, s135_20, s135_24, s135_25, s135_26, s135_27, s135_30, s135_33, s135_34, s135_35, s135_36, s135_37, s135_40, s135_43, s135_44, s135_45, s135_46, s135_49, s135_50, s135_51, s135_52, s135_55, s135_56, s135_57, s135_58, s135_61, s135_62, s135_63, s135_66, s135_68, s135_69, s135_70, s135_71, s135_72, s135_73, s135_76, s135_77, s135_80, s135_81, s135_82, s135_85, s135_87, s135_88, s135_89, s135_90, s135_91, s135_92, s135_94, s135_95, s135_98, s135_100, s135_101, s135_102, s135_105, s135_107, s135_108, s135_109, s135_110, s135_113, s135_114, s135_117, s135_120, s135_123, s135_126, mis, mg1, mg2, mg3, mg4, mg5, mg6, mg7, mg8, mg9, mg10, mg11, mg12, mg13, mg14, mg15, mg16, mg17, mg18, mg19, mg20, mg21, mg22, ms1, ms2, ms3, ms4, ms5, ms6, ms7, ms8, ms9, ms10, ms11, ms12, ms13, ms14, ms15, ms16, ms17, ms18, ms19, ms20, ms21, ms22, mf0, mf1, mf2, mf3, mf4, mf5, mf6, mf7, mf8, mf9, mf10, mf11, mf12, mf13, mf14, mf15, mf16, mf17, mf18, mf19, mf20, mf21, mf22, mf23, mf24, mf25, mf26, mp4, mp7, mp22, mp25, mp26, mq_0, al_I, as_I, zl_Z, zs_0, zs_1, Nat.reduceAdd, Nat.reduceLeDiff, Nat.zero_le, cat_0, cat_i, cat_r, opt_n, opt_s, true_and, nI_add, pk_mul, ua_ua, ua_s, ua_n, not_false_eq_true, Nat.reduceEqDiff, hT.1]
    rw [if_pos ((nI_l1 (by omega) (by omega)).mpr (by omega))]
    exact hX f hf
  | succ n ih =>
    intro t f hn hf
    rw [s135_2]
    simp only [s135_0, s135_1, s135_3, s135_4, s135_7, s135_10, s135_11, s135_14, s135_15, s135_16, s135_17, s135_20, s135_24, s135_25, s135_26, s135_27, s135_30, s135_33, s135_34, s135_35, s135_36, s135_37, s135_40, s135_43, s135_44, s135_45, s135_46, s135_49, s135_50, s135_51, s135_52, s135_55, s135_56, s135_57, s135_58, s135_61, s135_62, s135_63, s135_66, s135_68, s135_69, s135_70, s135_71, s135_72, s135_73, s135_76, s135_77, s135_80, s135_81, s135_82, s135_85, s135_87, s135_88, s135_89, s135_90, s135_91, s135_92, s135_94, s135_95, s135_98, s135_100, s135_101, s135_102, s135_105, s135_107, s135_108, s135_109, s135_110, s135_113, s135_114, s135_117, s135_120, s135_123, s135_126, mis, mg1, mg2, mg3, mg4, mg5, mg6, mg7, mg8, mg9, mg10, mg11, mg12, mg13, mg14, mg15, mg16, mg17, mg18, mg19, mg20, mg21, mg22, ms1, ms2, ms3, ms4, ms5, ms6, ms7, ms8, ms9, ms10, ms11, ms12, ms13, ms14, ms15, ms16, ms17, ms18, ms19, ms20, ms21, ms22, mf0, mf1, mf2, mf3, mf4, mf5, mf6, mf7, mf8, mf9, mf10, mf11, mf12, mf13, mf14, mf15, mf16, mf17, mf18, mf19, mf20, mf21, mf22, mf23, mf24, mf25, mf26, mp4, mp7, mp22, mp25, mp26, mq_0, al_I, as_I, zl_Z, zs_0, zs_1, Nat.reduceAdd, Nat.reduceLeDiff, Nat.zero_le, cat_0, cat_i, cat_r, opt_n, opt_s, true_and, nI_add, pk_mul, ua_ua, ua_s, ua_n, not_false_eq_true, Nat.reduceEqDiff, hT.1, xi_n (show t < 42 by omega) (show 42 < 2147483648 by decide)]
    rw [if_neg (fun z => absurd ((nI_l1 (by omega) (by omega)).mp z) (by omega))]
    refine ih (t + 1) _ (by omega) (fun d hd => ?_)
    by_cases hd2 : d = t
    · rw [hd2, pk_us]
    · rw [pk_un hd2]
      exact hf d (by omega)
theorem r_stackSums {L R : Nat → Nat} (h1 : 1 ≤ v) (h2 : v ≤ 5) (hp : 2 ≤ p) (hp2 : p ≤ 101) (hlo : lo < p) (hT : mTab v A) (hp1 : A 1 1 = nI p) (hl1 : A 1 2 = nI lo) (hL : ∀ d, d < tC v → A 17 d = nI (L d)) (hR : ∀ d, d < tC v → A 18 d = nI (R d)) (hLl : ∀ d, L d < p) (hRl : ∀ d, R d < p) (hX : ∀ f, (∀ d, d < tC v → f d = nI (pil v p lo L R d)) → X none (mdl M (ua A 16 f) g)) : ex_W 135 0 [.ref M, oU, oU, oU, oU] [] (mdl M A g) X := by
  rw [s135_0, s135_1]
  have := l_ss2 (M := M) (A := A) (g := g) (X := X) (l2 := oU) (l3 := oU) (l4 := oU) h1 h2 hT (fun f hf => ?_) (tC v) 0 (A 16) (by omega) (fun d hd => by omega)
  · rw [ua_id] at this
    exact this
  rw [s135_23, s135_24]
  exact l_ss25 h1 h2 hp hp2 hlo hT hp1 hl1 hL hR hLl hRl (tC v) 0 (fun _ => 0) f _ _ _ (by omega) (fun _ => by omega) hf hX
end M9
