set_option maxRecDepth 10000 in
set_option maxHeartbeats 2000000 in
theorem pw_c {c c' a b x y : Nat} (h : c' * 2 ^ a = c * 2 ^ b) (e : x + b = y + a) : c' * 2 ^ x = c * 2 ^ y := by
  have h2 : c' * 2 ^ x * 2 ^ b = c * 2 ^ y * 2 ^ b := by
    rw [Nat.mul_assoc, ← Nat.pow_add, e, Nat.pow_add, Nat.mul_comm (2 ^ y), ← Nat.mul_assoc, h, Nat.mul_assoc, Nat.mul_assoc, Nat.mul_comm (2 ^ b)]
  exact Nat.eq_of_mul_eq_mul_right (Nat.two_pow_pos b) h2
def EX (q : UInt64) (c : Nat) (e : Int) : Prop := FP.Core.val64 q = FP.Core.round FP.Core.b64 (.fin false c e)
set_option maxRecDepth 10000 in
set_option maxHeartbeats 2000000 in
theorem EX.fin {q : UInt64} {c : Nat} {e : Int} (h : EX q c e) (hc : c < 2 ^ 53) (h1 : -1074 ≤ e) (h2 : e ≤ 971) : ∃ (c' a : Nat), FP.Core.val64 q = .fin false c' ((a : Int) - 1074) ∧ c' * 2 ^ a = c * 2 ^ (e + 1074).toNat := by
  have hf := FP.Core.val64_fits q
  obtain ⟨c', q', h3, h4⟩ := FP.Core.round_exact FP.Core.good_b64 false (c := c) (q := e) hc (by rw [FP.Core.qmin_b64]; exact h1) (by rw [show FP.Core.b64.qmax = 971 by decide]; exact h2)
  unfold EX at h
  rw [h3] at h
  rw [h] at hf
  have hq : FP.Core.b64.qmin ≤ q' := hf.2.1
  rw [FP.Core.qmin_b64] at hq
  refine ⟨c', (q' + 1074).toNat, ?_, ?_⟩
  · rw [h, show (((q' + 1074).toNat : Int) - 1074) = q' by omega]
  · unfold FP.Core.inUnits at h4
    rw [FP.Core.qmin_b64, show q' - -1074 = q' + 1074 by omega, show e - -1074 = e + 1074 by omega] at h4
    exact h4
set_option maxRecDepth 10000 in
set_option maxHeartbeats 2000000 in
theorem EX.uniq {q q' : UInt64} {c : Nat} {e : Int} (h : EX q c e) (k : EX q' c e) : q = q' := by
  refine FP.Core.val64_inj ?_ (h.trans k.symm)
  rw [show FP.Core.val64 q = _ from h]
  exact FP.Core.roundRatio_ne_nan _ _ _ _ _
set_option maxRecDepth 10000 in
set_option maxHeartbeats 2000000 in
theorem v2 : FP.Core.val64 4611686018427387904 = .fin false (2 ^ 52) (-51) := by decide +kernel
set_option maxRecDepth 10000 in
set_option maxHeartbeats 2000000 in
theorem EX.dbl {q : UInt64} {c : Nat} {e : Int} (h : EX q c e) (hc : c < 2 ^ 53) (h1 : -1074 ≤ e) (h2 : e ≤ 971) : EX (FP.dmul q 4611686018427387904) c (e + 1) := by
  obtain ⟨c', a, h3, h4⟩ := h.fin hc h1 h2
  show FP.Core.val64 (FP.Core.dmul q 4611686018427387904) = _
  rw [FP.Core.val64_dmul, h3, v2]
  show FP.Core.roundRatio FP.Core.b64 false (c' * 2 ^ 52) 1 _ = FP.Core.roundRatio FP.Core.b64 false c 1 (e + 1)
  refine FP.Core.roundRatio_congr (by decide) (by decide) ?_
  rw [Nat.mul_one, Nat.mul_one, Nat.mul_assoc, ← Nat.pow_add]
  exact pw_c h4 (by omega)
set_option maxRecDepth 10000 in
set_option maxHeartbeats 2000000 in
theorem EX.hlv {q : UInt64} {c : Nat} {e : Int} (h : EX q c e) (hc : c < 2 ^ 53) (h1 : -1074 ≤ e) (h2 : e ≤ 971) : EX (FP.ddiv q 4611686018427387904) c (e - 1) := by
  obtain ⟨c', a, h3, h4⟩ := h.fin hc h1 h2
  show FP.Core.val64 (FP.Core.ddiv q 4611686018427387904) = _
  rw [FP.Core.val64_ddiv, h3, v2]
  show FP.Core.roundRatio FP.Core.b64 false c' (2 ^ 52) _ = FP.Core.roundRatio FP.Core.b64 false c 1 (e - 1)
  refine FP.Core.roundRatio_congr (by decide) (by decide) ?_
  rw [Nat.mul_one, Nat.mul_assoc, ← Nat.pow_add]
  exact pw_c h4 (by omega)
set_option maxRecDepth 10000 in
set_option maxHeartbeats 2000000 in
theorem EX.int {n : Nat} (h : n < 2 ^ 31) : EX (FP.i2d (nI n)) n 0 := by
  show FP.Core.val64 (FP.Core.i2d (nI n)) = _
  rw [FP.Core.val64_i2d, nI_toInt h]
  rfl
set_option maxRecDepth 10000 in
set_option maxHeartbeats 2000000 in
theorem EX.zero {q : UInt64} {e : Int} (h : EX q 0 e) (e' : Int) : EX q 0 e' := h
set_option maxRecDepth 10000 in
set_option maxHeartbeats 2000000 in
theorem cv_l (o : Option Ordering) : (Op.cmpValue o .l ≤ 0 ↔ o ≠ some .gt) := by
  rcases o with _ | _ | _ | _ <;> decide
set_option maxRecDepth 10000 in
set_option maxHeartbeats 2000000 in
theorem EX.cmp0 {q : UInt64} {c : Nat} {e : Int} (h : EX q c e) (hc : c < 2 ^ 53) (h1 : -1074 ≤ e) (h2 : e ≤ 971) : FP.dcmp q FP.dconst0 = some (if c = 0 then .eq else .gt) := by
  obtain ⟨c', a, h3, h4⟩ := h.fin hc h1 h2
  have hz : c' = 0 ↔ c = 0 := by
    have p1 := Nat.two_pow_pos a
    have p2 := Nat.two_pow_pos (e + 1074).toNat
    constructor
    · intro z
      rw [z, Nat.zero_mul] at h4
      rcases Nat.mul_eq_zero.mp h4.symm with w | w <;> omega
    · intro z
      rw [z, Nat.zero_mul] at h4
      rcases Nat.mul_eq_zero.mp h4 with w | w <;> omega
  show FP.Core.order (FP.Core.val64 q) (FP.Core.val64 FP.dconst0) = _
  rw [h3, show FP.Core.val64 FP.dconst0 = .fin false 0 FP.Core.b64.qmin from FP.Core.val64_dconst0]
  show some (compare (FP.Core.signed false (FP.Core.inUnits c' _ _)) (FP.Core.signed false (FP.Core.inUnits 0 _ _))) = _
  have e0 : ∀ q r : Int, FP.Core.inUnits 0 q r = 0 := fun q r => Nat.zero_mul _
  rw [e0, FP.Core.signed_zero]
  congr 1
  unfold FP.Core.signed FP.Core.inUnits
  by_cases z : c = 0
  · rw [if_pos z, hz.mpr z, Nat.zero_mul]
    decide
  · rw [if_neg z]
    have : 0 < c' := Nat.pos_of_ne_zero (fun w => z (hz.mp w))
    rw [FP.Core.compare_ite]
    have hp : 0 < c' * 2 ^ ((a : Int) - 1074 - min ((a : Int) - 1074) FP.Core.b64.qmin).toNat := Nat.mul_pos this (Nat.two_pow_pos _)
    generalize c' * 2 ^ ((a : Int) - 1074 - min ((a : Int) - 1074) FP.Core.b64.qmin).toNat = z at hp
    simp only [Bool.false_eq_true, if_false]
    rw [if_neg (by omega), if_neg (by omega)]
set_option maxRecDepth 10000 in
set_option maxHeartbeats 2000000 in
theorem EX.le0 {q : UInt64} {c : Nat} {e : Int} (h : EX q c e) (hc : c < 2 ^ 53) (h1 : -1074 ≤ e) (h2 : e ≤ 971) : Op.cmpValue (FP.dcmp q FP.dconst0) .l ≤ 0 ↔ c = 0 := by
  rw [cv_l, h.cmp0 hc h1 h2]
  by_cases z : c = 0
  · rw [if_pos z]; exact ⟨fun _ => z, fun _ => by decide⟩
  · rw [if_neg z]; exact ⟨fun w => absurd rfl w, fun w => absurd w z⟩
set_option maxRecDepth 10000 in
set_option maxHeartbeats 2000000 in
theorem EX_up : ∀ (j : Nat) (q : UInt64) (c : Nat) (e : Int), EX q c e → c < 2 ^ 53 → -1074 ≤ e → e + j ≤ 971 → EX (tp_up j q) c (e + j) := by
  intro j
  induction j with
  | zero => intro q c e h _ _ _; show EX q c (e + 0); rw [Int.add_zero]; exact h
  | succ j ih =>
    intro q c e h hc h1 h2
    have := ih _ c (e + 1) (h.dbl hc h1 (by omega)) hc (by omega) (by omega)
    rw [show e + ((j + 1 : Nat) : Int) = e + 1 + (j : Int) by omega]
    exact this
set_option maxRecDepth 10000 in
set_option maxHeartbeats 2000000 in
theorem EX_dn (B : Nat) : ∀ (j x : Nat) (q : UInt64) (c : Nat) (e : Int), EX q c e → c < 2 ^ 53 → -1074 + ((B - x : Nat) : Int) ≤ e → e ≤ 971 → B ≤ j + x → EX (tp_dn B j x q) c (e - ((B - x : Nat) : Int)) := by
  intro j
  induction j with
  | zero => intro x q c e h _ _ _ hj; show EX q c _; rw [show e - ((B - x : Nat) : Int) = e by omega]; exact h
  | succ j ih =>
    intro x q c e h hc h1 h2 hj
    unfold tp_dn
    by_cases z : c = 0
    · subst z
      have h0 : Op.cmpValue (FP.dcmp q FP.dconst0) .l ≤ 0 := (h.le0 hc (by omega) h2).mpr rfl
      rw [if_neg (fun w => w.2 h0)]
      exact h.zero _
    · have h0 : ¬ Op.cmpValue (FP.dcmp q FP.dconst0) .l ≤ 0 := fun w => z ((h.le0 hc (by omega) h2).mp w)
      by_cases w : x < B
      · rw [if_pos ⟨w, h0⟩]
        have := ih (x + 1) _ c (e - 1) (h.hlv hc (by omega) h2) hc (by omega) (by omega) (by omega)
        rw [show e - 1 - ((B - (x + 1) : Nat) : Int) = e - ((B - x : Nat) : Int) by omega] at this
        exact this
      · rw [if_neg (fun k => w k.1), show e - ((B - x : Nat) : Int) = e by omega]
        exact h
set_option maxRecDepth 10000 in
set_option maxHeartbeats 2000000 in
theorem e_v37 {K : Int32 → UInt64 → Option UInt64} {a1 : Int32} : ∀ (j k N : Nat) (q : UInt64) (c : Nat) (e : Int), EX q c e → vf_n64 q → c < 2 ^ 53 → -1074 ≤ e → e + j ≤ 971 → k = j + 1 → k < 2 ^ 31 → j < N → ∃ q', EX q' c (e + j) ∧ vf_n64 q' ∧ l_valueOf_37 K N a1 q (nI k) = K a1 q' := by
  intro j
  induction j with
  | zero =>
    intro k N q c e h hq hc h1 h2 hk hk2 hN
    obtain ⟨N, rfl⟩ : ∃ m, N = m + 1 := ⟨N - 1, by omega⟩
    refine ⟨q, by rw [show e + ((0 : Nat) : Int) = e by omega]; exact h, hq, ?_⟩
    rw [l_valueOf_37, if_pos (show nI k ≤ 1 by rw [hk]; decide)]
  | succ j ih =>
    intro k N q c e h hq hc h1 h2 hk hk2 hN
    obtain ⟨N, rfl⟩ : ∃ m, N = m + 1 := ⟨N - 1, by omega⟩
    obtain ⟨q', a1', a2, a3⟩ := ih (k - 1) N _ c (e + 1) (h.dbl hc h1 (by omega)) (fl_m2 hq) hc (by omega) (by omega) (by omega) (by omega) (by omega)
    refine ⟨q', by rw [show e + ((j + 1 : Nat) : Int) = e + 1 + (j : Int) by omega]; exact a1', a2, ?_⟩
    rw [l_valueOf_37, if_neg (show ¬ nI k ≤ 1 from nI_ge (a := 1) (by omega) hk2), og_t (fl_m2 hq)]
    rw [show nI k + (-1) = nI (k - 1) by rw [show k = (k - 1) + 1 by omega, pk_m1]; rfl]
    exact a3
set_option maxRecDepth 10000 in
set_option maxHeartbeats 2000000 in
theorem e_v60 {K : UInt64 → Option UInt64} {l : Nat} (hl : l < 1000) : ∀ (j i N : Nat) (q : UInt64) (c : Nat) (e : Int), EX q c e → vf_n64 q → c < 2 ^ 53 → -1074 + (j : Int) ≤ e → e ≤ 971 → i + j = l → j < N → ∃ q', EX q' c (e - j) ∧ vf_n64 q' ∧ l_valueOf_60 K N (nI l) q (nI i) = K q' := by
  intro j
  induction j with
  | zero =>
    intro i N q c e h hq hc h1 h2 hi hN
    obtain ⟨N, rfl⟩ : ∃ m, N = m + 1 := ⟨N - 1, by omega⟩
    refine ⟨q, by rw [show e - ((0 : Nat) : Int) = e by omega]; exact h, hq, ?_⟩
    rw [l_valueOf_60, if_pos (nI_le (by omega) (by omega))]
  | succ j ih =>
    intro i N q c e h hq hc h1 h2 hi hN
    obtain ⟨N, rfl⟩ : ∃ m, N = m + 1 := ⟨N - 1, by omega⟩
    obtain ⟨q', a1', a2, a3⟩ := ih (i + 1) N _ c (e - 1) (h.hlv hc (by omega) h2) (fl_d2 hq) hc (by omega) (by omega) (by omega) (by omega)
    refine ⟨q', by rw [show e - ((j + 1 : Nat) : Int) = e - 1 - (j : Int) by omega]; exact a1', a2, ?_⟩
    rw [l_valueOf_60, if_neg (nI_ge (by omega) (by omega)), og_t (fl_d2 hq), nI_1]
    exact a3
set_option maxRecDepth 10000 in
set_option maxHeartbeats 2000000 in
theorem tpM1 (E : Nat) : 1 ≤ tp_M E := by unfold tp_M; split <;> omega
def tc (m n : Nat) : Nat := if n / m = 0 then n % m else m + n % m
set_option maxRecDepth 10000 in
set_option maxHeartbeats 2000000 in
theorem e_valueOf {m l n : Nat} (hm : 0 < m) (hm2 : m < 2 ^ 30) (hl : l < 1000) (hn : n < 2 ^ 31) (hE : n / m ≤ 600) : ∃ q, r_valueOf (nI m) (nI l) (nI n) = some q ∧ EX q (tc m n) ((tp_M (n / m) : Int) - 1 - l) ∧ vf_n64 q := by
  have hmod := Nat.mod_lt n hm
  have hc : tc m n < 2 ^ 53 := by unfold tc; split <;> omega
  unfold r_valueOf j_valueOf_24 j_valueOf_35
  rw [og_t (nI_ne0 hm (by omega)), og_t (nI_ne0 hm (by omega)), pk_div hn hm (by omega), pk_mul, pk_sub (Nat.div_mul_le_self n m), show n - n / m * m = n % m by have := Nat.div_add_mod n m; rw [Nat.mul_comm] at this; omega, nI_add]
  have key : ∀ (q0 : UInt64) (k : Nat), EX q0 (tc m n) 0 → vf_n64 q0 → k = tp_M (n / m) → ∃ q, l_valueOf_37 (fun y5 y6 => l_valueOf_60 (fun y9 => some y9) 2000 y5 y6 0) 2000 (nI l) q0 (nI k) = some q ∧ EX q (tc m n) ((tp_M (n / m) : Int) - 1 - l) ∧ vf_n64 q := by
    intro q0 k h hv hk
    have hk1 : 1 ≤ k := by rw [hk]; exact tpM1 _
    have hk6 : k ≤ 600 := by rw [hk]; unfold tp_M; split <;> omega
    obtain ⟨q1, a1, a2, a3⟩ := e_v37 (K := fun y5 y6 => l_valueOf_60 (fun y9 => some y9) 2000 y5 y6 0) (a1 := nI l) (k - 1) k 2000 q0 _ 0 h hv hc (by omega) (by omega) (by omega) (by omega) (by omega)
    obtain ⟨q2, b1, b2, b3⟩ := e_v60 (K := fun y9 => some y9) hl l 0 2000 q1 _ _ a1 a2 hc (by omega) (by omega) (by omega) (by omega)
    refine ⟨q2, a3.trans (by rw [← nI_0]; exact b3), ?_, b2⟩
    rw [← hk, show (k : Int) - 1 - l = 0 + ((k - 1 : Nat) : Int) - l by omega]
    exact b1
  by_cases z : n / m = 0
  · rw [if_pos (show nI (n / m) = 0 by rw [z]; rfl), if_pos (show nI (n / m) = 0 by rw [z]; rfl)]
    have e1 : tc m n = n % m := if_pos z
    exact key _ 1 (by rw [e1]; exact EX.int (by omega)) (fl_i _) (by unfold tp_M; rw [if_pos z])
  · have z2 : ¬ nI (n / m) = 0 := nI_ne0 (Nat.pos_of_ne_zero z) (by have := Nat.div_le_self n m; omega)
    rw [if_neg z2, if_neg z2]
    have e1 : tc m n = m + n % m := if_neg z
    exact key _ (n / m) (by rw [e1]; exact EX.int (by omega)) (fl_i _) (by unfold tp_M; rw [if_neg z])
set_option maxRecDepth 10000 in
set_option maxHeartbeats 2000000 in
theorem e_tpall {m B n : Nat} {f one : Int32} (hm : 0 < m) (hm2 : m < 2 ^ 30) (hB : 1 ≤ B) (hB2 : B < 1000) (hn : n < 2 ^ 31) (hE : n / m ≤ 600) (hf : f = nI (n % m)) (ho : one = nI m) : EX (tp_dn B B (tp_M (n / m)) (tp_up (tp_M (n / m) - B) (tp_sz (n / m) f one))) (tc m n) ((tp_M (n / m) : Int) - 1 - ((B - 1 : Nat) : Int)) := by
  have hmod := Nat.mod_lt n hm
  have hc : tc m n < 2 ^ 53 := by unfold tc; split <;> omega
  have hM : tp_M (n / m) ≤ 600 := by unfold tp_M; split <;> omega
  have hM1 : 1 ≤ tp_M (n / m) := tpM1 _
  have hs : EX (tp_sz (n / m) f one) (tc m n) 0 := by
    unfold tp_sz tc
    by_cases z : n / m = 0
    · rw [if_pos z, if_pos z, hf]
      exact EX.int (by omega)
    · rw [if_neg z, if_neg z, hf, ho, nI_add]
      exact EX.int (by omega)
  have hu := EX_up (tp_M (n / m) - B) _ _ 0 hs hc (by omega) (by omega)
  have hd := EX_dn B B (tp_M (n / m)) _ _ _ hu hc (by omega) (by omega) (by omega)
  rw [show (tp_M (n / m) : Int) - 1 - ((B - 1 : Nat) : Int) = 0 + ((tp_M (n / m) - B : Nat) : Int) - ((B - tp_M (n / m) : Nat) : Int) by omega]
  exact hd
