def PE (n D m e : Nat) : Prop := n * 2 ^ D < 2 * m * 2 ^ e
def rn (n D E : Nat) : Nat := if E ≤ D then n * 2 ^ (D - E) else FP.Core.nearest n (2 ^ (E - D))
set_option maxRecDepth 10000 in
set_option maxHeartbeats 2000000 in
theorem PE.mono {n D m e e' : Nat} (h : PE n D m e) (he : e ≤ e') : PE n D m e' := by
  unfold PE at *
  exact Nat.lt_of_lt_of_le h (Nat.mul_le_mul_left _ (Nat.pow_le_pow_right (by omega) he))
set_option maxRecDepth 10000 in
set_option maxHeartbeats 2000000 in
theorem cv_lt (o : Option Ordering) : (Op.cmpValue o .l < 0 ↔ o = some .lt ∨ o = none) ∧ (0 ≤ Op.cmpValue o .g ↔ o ≠ some .lt) := by
  rcases o with _ | _ | _ | _ <;> decide
set_option maxRecDepth 10000 in
set_option maxHeartbeats 2000000 in
theorem cmp_lt_iff (a b : Nat) : compare (a : Int) (b : Int) = .lt ↔ a < b := by
  rw [FP.Core.compare_ite]
  by_cases h : a < b
  · rw [if_pos (by omega)]
    exact ⟨fun _ => h, fun _ => rfl⟩
  · rw [if_neg (by omega)]
    constructor
    · intro w
      split at w <;> cases w
    · intro w
      exact absurd w h
set_option maxRecDepth 10000 in
set_option maxHeartbeats 2000000 in
theorem lt_scale {A B k : Nat} (h : 0 < k) : A * k < B * k ↔ A < B := ⟨fun w => Nat.lt_of_mul_lt_mul_right w, fun w => Nat.mul_lt_mul_of_pos_right w h⟩
set_option maxRecDepth 10000 in
set_option maxHeartbeats 2000000 in
theorem EX.lt2 {q p : UInt64} {n D m e : Nat} {r : Int} {d : Nat} (h : EX q n ((D : Int) - e)) (hn : n < 2 ^ 53) (hD : D ≤ 400) (he : e ≤ 600) (k : EX p d r) (hd : d < 2 ^ 53) (r1 : -1 ≤ r) (r2 : r ≤ 5) {x : Nat} (hx : d * 2 ^ (r + 1).toNat = x * 2) : FP.dcmp q p = some .lt ↔ n * 2 ^ D < x * 2 ^ e := by
  rw [h.cmp hn (by omega) (by omega) k hd (by omega) (by omega)]
  have e1 : n * 2 ^ ((D : Int) - e + 1074).toNat * 2 ^ e = n * 2 ^ D * 2 ^ 1074 := by
    rw [Nat.mul_assoc, ← Nat.pow_add, Nat.mul_assoc, ← Nat.pow_add]
    congr 2
    omega
  have e2 : d * 2 ^ (r + 1074).toNat = x * 2 ^ 1074 := by
    rw [show (r + 1074).toNat = (r + 1).toNat + 1073 by omega, Nat.pow_add, ← Nat.mul_assoc, hx, Nat.mul_assoc, ← Nat.pow_succ']
  constructor
  · intro w
    have w1 := (cmp_lt_iff _ _).mp (Option.some.inj w)
    have w2 := Nat.mul_lt_mul_of_pos_right w1 (Nat.two_pow_pos e)
    rw [e1, e2, Nat.mul_assoc x, Nat.mul_comm (2 ^ 1074), ← Nat.mul_assoc] at w2
    exact Nat.lt_of_mul_lt_mul_right w2
  · intro w
    have w2 := Nat.mul_lt_mul_of_pos_right w (Nat.two_pow_pos 1074)
    rw [← e1, Nat.mul_assoc x, Nat.mul_comm (2 ^ e), ← Nat.mul_assoc, ← e2] at w2
    exact congrArg some ((cmp_lt_iff _ _).mpr (Nat.lt_of_mul_lt_mul_right w2))
set_option maxRecDepth 10000 in
set_option maxHeartbeats 2000000 in
theorem EX.rd {q : UInt64} {n D E m : Nat} (h : EX q n ((D : Int) - E)) (hn : n < 2 ^ 53) (hD : D ≤ 400) (hE : E ≤ 600) (hm : m ≤ 2 ^ 24) (hP : PE n D m E) (hq : vf_n64 q) : r_nearest q = some (nI (rn n D E)) ∧ ne_rd q = nI (rn n D E) := by
  unfold PE at hP
  unfold rn
  by_cases z : E ≤ D
  · rw [if_pos z]
    have hc : n * 2 ^ (D - E) < 2 * m := by
      rw [show n * 2 ^ D = n * 2 ^ (D - E) * 2 ^ E by rw [Nat.mul_assoc, ← Nat.pow_add, show D - E + E = D by omega]] at hP
      exact Nat.lt_of_mul_lt_mul_right hP
    have h2 := h.shift (D - E)
    rw [show (D : Int) - E - ((D - E : Nat) : Int) = -((0 : Nat) : Int) by omega] at h2
    have := e_near h2 (by omega) (by omega) (by rw [Nat.pow_zero, Nat.div_one]; omega) hq
    rw [show FP.Core.nearest (n * 2 ^ (D - E)) (2 ^ 0) = n * 2 ^ (D - E) by
      have := FP.Core.nearest_exact (B := 1) (n * 2 ^ (D - E)) (by omega)
      rw [Nat.mul_one] at this
      exact this] at this
    exact this
  · rw [if_neg z]
    rw [show (D : Int) - E = -((E - D : Nat) : Int) by omega] at h
    refine e_near h hn (by omega) ?_ hq
    have hc : n < 2 * m * 2 ^ (E - D) := by
      rw [show 2 * m * 2 ^ E = 2 * m * 2 ^ (E - D) * 2 ^ D by rw [Nat.mul_assoc (2 * m) (2 ^ (E - D)), ← Nat.pow_add, show E - D + D = E by omega]] at hP
      exact Nat.lt_of_mul_lt_mul_right hP
    have := Nat.div_lt_of_lt_mul (k := 2 * m) (n := 2 ^ (E - D)) (m := n) (by rw [Nat.mul_comm]; exact hc)
    omega
set_option maxRecDepth 10000 in
set_option maxHeartbeats 2000000 in
theorem e_b9 {K : Int32 → UInt64 → Int32 → Option Int32} {a2 a6 : Int32} {l : Nat} (hl : l < 1000) : ∀ (j i N : Nat) (q : UInt64) (c : Nat) (e : Int), EX q c e → vf_n64 q → c < 2 ^ 53 → -1074 ≤ e → e + j ≤ 971 → i + j = l → j < N → ∃ q', EX q' c (e + j) ∧ vf_n64 q' ∧ l_bitsOf_9 K N a2 (nI l) q a6 (nI i) = K a2 q' a6 := by
  intro j
  induction j with
  | zero =>
    intro i N q c e h hq hc h1 h2 hi hN
    obtain ⟨N, rfl⟩ : ∃ m, N = m + 1 := ⟨N - 1, by omega⟩
    refine ⟨q, by rw [show e + ((0 : Nat) : Int) = e by omega]; exact h, hq, ?_⟩
    rw [l_bitsOf_9, if_pos (nI_le (by omega) (by omega))]
  | succ j ih =>
    intro i N q c e h hq hc h1 h2 hi hN
    obtain ⟨N, rfl⟩ : ∃ m, N = m + 1 := ⟨N - 1, by omega⟩
    obtain ⟨q', a1', a2', a3⟩ := ih (i + 1) N _ c (e + 1) (h.dbl hc h1 (by omega)) (fl_m2 hq) hc (by omega) (by omega) (by omega) (by omega)
    refine ⟨q', by rw [show e + ((j + 1 : Nat) : Int) = e + 1 + (j : Int) by omega]; exact a1', a2', ?_⟩
    rw [l_bitsOf_9, if_neg (nI_ge (by omega) (by omega)), og_t (fl_m2 hq), nI_1]
    exact a3
set_option maxRecDepth 10000 in
set_option maxHeartbeats 2000000 in
theorem e_b29 {K : Int32 → UInt64 → Int32 → Option Int32} {n D m E : Nat} (hn : n < 2 ^ 53) (hD : D ≤ 400) (hm : m ≤ 2 ^ 24) (hE : E ≤ 500) (hP : PE n D m E) (hL : E = 1 ∨ ¬ PE n D m (E - 1)) : ∀ (j e N : Nat) (q : UInt64), EX q n ((D : Int) - e) → vf_n64 q → 1 ≤ e → e + j = E → j < N → ∃ q', EX q' n ((D : Int) - E) ∧ vf_n64 q' ∧ l_bitsOf_29 K N (nI m) q (nI e) = K (nI m) q' (nI E) := by
  have ex : EX (FP.i2d (2 * nI m)) (2 * m) 0 := by
    rw [show (2 : Int32) * nI m = nI (2 * m) from pk_mul 2 m]
    exact EX.int (by omega)
  have cmp : ∀ (e : Nat) (q : UInt64), EX q n ((D : Int) - e) → e ≤ 500 → (Op.cmpValue (FP.dcmp q (FP.i2d (2 * nI m))) .l < 0 ↔ PE n D m e) := by
    intro e q h he
    rw [(cv_lt _).1]
    have h1 := h.lt2 (m := m) hn hD (by omega) ex (by omega) (by omega) (by omega) (x := 2 * m) (by rw [show ((0 : Int) + 1).toNat = 1 by omega, Nat.pow_one])
    rw [h1]
    constructor
    · rintro (w | w)
      · exact w
      · rw [FP.Core.dcmp_none] at w
        rcases w with w | w
        · exact absurd w h.ne_nan
        · exact absurd w ex.ne_nan
    · exact Or.inl
  intro j
  induction j with
  | zero =>
    intro e N q h hq he1 he hN
    obtain ⟨N, rfl⟩ : ∃ m, N = m + 1 := ⟨N - 1, by omega⟩
    obtain rfl : e = E := by omega
    refine ⟨q, h, hq, ?_⟩
    rw [l_bitsOf_29, if_pos ((cmp e q h hE).mpr hP)]
  | succ j ih =>
    intro e N q h hq he1 he hN
    obtain ⟨N, rfl⟩ : ∃ m, N = m + 1 := ⟨N - 1, by omega⟩
    have hh := h.hlv hn (by omega) (by omega)
    rw [show (D : Int) - e - 1 = (D : Int) - ((e + 1 : Nat) : Int) by omega] at hh
    obtain ⟨q', a1, a2, a3⟩ := ih (e + 1) N _ hh (fl_d2 hq) (by omega) (by omega) (by omega)
    refine ⟨q', a1, a2, ?_⟩
    have hnP : ¬ PE n D m e := by
      rcases hL with w | w
      · omega
      · exact fun k => w (k.mono (by omega))
    rw [l_bitsOf_29, if_neg (fun w => hnP ((cmp e q h (by omega)).mp w)), og_t (fl_d2 hq), nI_1]
    exact a3
set_option maxRecDepth 10000 in
set_option maxHeartbeats 2000000 in
theorem ref_bits {a : UInt64} {n D B m E : Nat} (h : EX a n ((D : Int) - B)) (hq : vf_n64 a) (hn : n < 2 ^ 53) (hD : D ≤ 400) (hB : 1 ≤ B) (hB2 : B ≤ 400) (hm : m ≤ 2 ^ 24) (hE1 : 1 ≤ E) (hE : E ≤ 500) (hP : PE n D m E) (hL : E = 1 ∨ ¬ PE n D m (E - 1)) : r_bitsOf a (nI m) (nI (B - 1)) = some (nI m * (nI E - 1) + nI (rn n D E)) := by
  unfold r_bitsOf
  obtain ⟨q1, a1, a2, a3⟩ := e_b9 (K := fun y3 y4 y5 => l_bitsOf_29 (fun y8 y9 y10 => (r_nearest y9).bind (fun z11 => some ((((y8 * (y10 - 1))) + z11)))) 2000 y3 y4 y5) (a2 := nI m) (a6 := 1) (l := B - 1) (by omega) (B - 1) 0 2000 a n _ h hq hn (by omega) (by omega) (by omega) (by omega)
  rw [show (D : Int) - B + ((B - 1 : Nat) : Int) = (D : Int) - ((1 : Nat) : Int) by omega] at a1
  obtain ⟨q2, b1, b2, b3⟩ := e_b29 (K := fun y8 y9 y10 => (r_nearest y9).bind (fun z11 => some ((((y8 * (y10 - 1))) + z11)))) hn hD hm hE hP hL (E - 1) 1 2000 q1 a1 a2 (by omega) (by omega) (by omega)
  rw [nI_0] at a3
  refine a3.trans (Eq.trans b3 ?_)
  show ((r_nearest q2).bind _) = _
  rw [(b1.rd hn hD (by omega) hm hP b2).1, Option.bind_some]
set_option maxRecDepth 10000 in
set_option maxHeartbeats 2000000 in
theorem ne_upE {n D m B top : Nat} (hn : n < 2 ^ 53) (hD : D ≤ 400) (hm : m ≤ 2 ^ 24) (ht : top ≤ 500) (hPt : PE n D m top) : ∀ (j e : Nat) (q : UInt64), EX q n ((D : Int) - e) → vf_n64 q → e + j = top → (e = B ∨ ¬ PE n D m (e - 1)) → B ≤ e → ∃ e' q', ne_up (nI m) top j e q = (e', q') ∧ EX q' n ((D : Int) - e') ∧ vf_n64 q' ∧ PE n D m e' ∧ (e' = B ∨ ¬ PE n D m (e' - 1)) ∧ B ≤ e' ∧ e' ≤ top := by
  have ex : EX (FP.dmul 4611686018427387904 (FP.i2d (nI m))) m 1 := by
    show EX (FP.Core.dmul _ _) m 1
    rw [FP.Core.dmul_comm]
    exact (EX.int (n := m) (by omega)).dbl (by omega) (by omega) (by omega)
  have cmp : ∀ (e : Nat) (q : UInt64), EX q n ((D : Int) - e) → e ≤ 500 → (Op.cmpValue (FP.dcmp q (FP.dmul 4611686018427387904 (FP.i2d (nI m)))) .l < 0 ↔ PE n D m e) := by
    intro e q h he
    rw [(cv_lt _).1]
    have h1 := h.lt2 (m := m) hn hD (by omega) ex (by omega) (by omega) (by omega) (x := 2 * m) (by rw [show ((1 : Int) + 1).toNat = 2 by omega]; omega)
    rw [h1]
    constructor
    · rintro (w | w)
      · exact w
      · rw [FP.Core.dcmp_none] at w
        rcases w with w | w
        · exact absurd w h.ne_nan
        · exact absurd w ex.ne_nan
    · exact Or.inl
  intro j
  induction j with
  | zero =>
    intro e q h hq he hL hB
    exact ⟨e, q, rfl, h, hq, by rw [show e = top by omega]; exact hPt, hL, hB, by omega⟩
  | succ j ih =>
    intro e q h hq he hL hB
    unfold ne_up
    by_cases w : PE n D m e
    · rw [if_neg (fun k => k.2 ((cmp e q h (by omega)).mpr w))]
      exact ⟨e, q, rfl, h, hq, w, hL, hB, by omega⟩
    · rw [if_pos ⟨by omega, fun k => w ((cmp e q h (by omega)).mp k)⟩]
      have hh := h.hlv hn (by omega) (by omega)
      rw [show (D : Int) - e - 1 = (D : Int) - ((e + 1 : Nat) : Int) by omega] at hh
      exact ih (e + 1) _ hh (fl_d2 hq) (by omega) (Or.inr w) (by omega)
set_option maxRecDepth 10000 in
set_option maxHeartbeats 2000000 in
theorem ne_dnE {n D m : Nat} (hn : n < 2 ^ 53) (hD : D ≤ 400) (hm : m ≤ 2 ^ 24) (hm1 : 1 ≤ m) : ∀ (j e : Nat) (q : UInt64), EX q n ((D : Int) - e) → vf_n64 q → e ≤ j → 1 ≤ e → e ≤ 500 → PE n D m e → ∃ e' q', ne_dn (nI m) j e q = (e', q') ∧ EX q' n ((D : Int) - e') ∧ vf_n64 q' ∧ PE n D m e' ∧ (e' = 1 ∨ ¬ PE n D m (e' - 1)) ∧ 1 ≤ e' ∧ e' ≤ 500 := by
  have ex : EX (FP.i2d (nI m)) m 0 := EX.int (by omega)
  have cmp : ∀ (e : Nat) (q : UInt64), EX q n ((D : Int) - e) → 1 ≤ e → e ≤ 500 → (¬ 0 ≤ Op.cmpValue (FP.dcmp q (FP.i2d (nI m))) .g ↔ PE n D m (e - 1)) := by
    intro e q h he1 he
    rw [(cv_lt _).2, Decidable.not_not]
    have h1 := h.lt2 (m := m) hn hD (by omega) ex (by omega) (by omega) (by omega) (x := m) (by rw [show ((0 : Int) + 1).toNat = 1 by omega, Nat.pow_one])
    rw [h1]
    unfold PE
    rw [show 2 * m * 2 ^ (e - 1) = m * 2 ^ e by rw [show (2 : Nat) ^ e = 2 ^ (e - 1 + 1) by rw [show e - 1 + 1 = e by omega], Nat.pow_succ, Nat.mul_comm 2 m, Nat.mul_assoc, Nat.mul_comm 2]]
  intro j
  induction j with
  | zero => intro e q h hq hj he1; omega
  | succ j ih =>
    intro e q h hq hj he1 he5 hP
    unfold ne_dn
    by_cases w : 1 < e ∧ PE n D m (e - 1)
    · rw [if_pos ⟨w.1, (cmp e q h he1 he5).mpr w.2⟩]
      have hh := h.dbl hn (by omega) (by omega)
      rw [show (D : Int) - e + 1 = (D : Int) - ((e - 1 : Nat) : Int) by omega] at hh
      exact ih (e - 1) _ hh (fl_m2 hq) (by omega) (by omega) (by omega) w.2
    · rw [if_neg (fun k => w ⟨k.1, (cmp e q h he1 he5).mp k.2⟩)]
      refine ⟨e, q, rfl, h, hq, hP, ?_, he1, he5⟩
      by_cases z : e = 1
      · exact Or.inl z
      · exact Or.inr (fun k => w ⟨by omega, k⟩)
set_option maxRecDepth 10000 in
set_option maxHeartbeats 2000000 in
theorem PE_uniq {n D m e e' : Nat} (h1 : 1 ≤ e) (h2 : PE n D m e) (h3 : e = 1 ∨ ¬ PE n D m (e - 1)) (k1 : 1 ≤ e') (k2 : PE n D m e') (k3 : e' = 1 ∨ ¬ PE n D m (e' - 1)) : e = e' := by
  rcases Nat.lt_trichotomy e e' with w | w | w
  · rcases k3 with z | z
    · omega
    · exact absurd (h2.mono (by omega)) z
  · exact w
  · rcases h3 with z | z
    · omega
    · exact absurd (k2.mono (by omega)) z
set_option maxRecDepth 10000 in
set_option maxHeartbeats 2000000 in
theorem cls_bits {a : UInt64} {n D B m E top : Nat} (h : EX a n ((D : Int) - B)) (hq : vf_n64 a) (hn : n < 2 ^ 53) (hD : D ≤ 400) (hB : 1 ≤ B) (hBt : B ≤ top) (ht : top ≤ 500) (hm : m ≤ 2 ^ 24) (hm1 : 1 ≤ m) (hE1 : 1 ≤ E) (hE : E ≤ top) (hP : PE n D m E) (hL : E = 1 ∨ ¬ PE n D m (E - 1)) : ne_bits (nI m) B top a = nI m * (nI E - 1) + nI (rn n D E) := by
  obtain ⟨e1, q1, a1, a2, a3, a4, a5, a6, a7⟩ := ne_upE (B := B) hn hD hm ht (hP.mono hE) (top - B) B a h hq (by omega) (Or.inl rfl) (Nat.le_refl _)
  obtain ⟨e2, q2, b1, b2, b3, b4, b5, b6, b7⟩ := ne_dnE hn hD hm hm1 e1 e1 q1 a2 a3 (Nat.le_refl _) (by omega) (by omega) a4
  obtain rfl : e2 = E := PE_uniq b6 b4 b5 hE1 hP hL
  have est : ne_st (nI m) B top a = (e2, q2) := by
    unfold ne_st
    rw [a1]
    exact b1
  unfold ne_bits
  rw [est, (b2.rd hn hD (by omega) hm hP b3).2]
