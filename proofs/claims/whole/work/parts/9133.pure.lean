set_option maxRecDepth 10000 in
set_option maxHeartbeats 2000000 in
theorem EX.ne_nan {q : UInt64} {c : Nat} {e : Int} (h : EX q c e) : FP.Core.val64 q ≠ .nan := by
  rw [show FP.Core.val64 q = _ from h]
  exact FP.Core.roundRatio_ne_nan _ _ _ _ _
set_option maxRecDepth 10000 in
set_option maxHeartbeats 2000000 in
theorem EX.zval {q : UInt64} {c : Nat} {e : Int} (h : EX q c e) (hc : c < 2 ^ 53) (h1 : -1074 ≤ e) (h2 : e ≤ 971) : FP.Core.zval FP.Core.b64 (FP.Core.val64 q) = ((c * 2 ^ (e + 1074).toNat : Nat) : Int) := by
  obtain ⟨c', a, h3, h4⟩ := h.fin hc h1 h2
  rw [h3, ← h4]
  show FP.Core.signed false (c' * 2 ^ ((a : Int) - 1074 - FP.Core.b64.qmin).toNat) = _
  rw [FP.Core.qmin_b64, show ((a : Int) - 1074 - -1074).toNat = a by omega]
  rfl
set_option maxRecDepth 10000 in
set_option maxHeartbeats 2000000 in
theorem EX.cmp {q p : UInt64} {c d : Nat} {e r : Int} (h : EX q c e) (hc : c < 2 ^ 53) (h1 : -1074 ≤ e) (h2 : e ≤ 971) (k : EX p d r) (hd : d < 2 ^ 53) (k1 : -1074 ≤ r) (k2 : r ≤ 971) : FP.dcmp q p = some (compare (((c * 2 ^ (e + 1074).toNat : Nat) : Int)) (((d * 2 ^ (r + 1074).toNat : Nat) : Int))) := by
  show FP.Core.order (FP.Core.val64 q) (FP.Core.val64 p) = _
  rw [FP.Core.order_zval FP.Core.good_b64 (FP.Core.val64_fits q) (FP.Core.val64_fits p) h.ne_nan k.ne_nan, h.zval hc h1 h2, k.zval hd k1 k2]
set_option maxRecDepth 10000 in
set_option maxHeartbeats 2000000 in
theorem EX.shift {q : UInt64} {c : Nat} {e : Int} (h : EX q c e) (k : Nat) : EX q (c * 2 ^ k) (e - k) := by
  unfold EX
  rw [show FP.Core.val64 q = _ from h]
  refine FP.Core.roundRatio_congr (by decide) (by decide) ?_
  rw [Nat.mul_one, Nat.mul_one, show (e - (e - (k : Int))).toNat = k by omega, show (e - (k : Int) - e).toNat = 0 by omega, Nat.pow_zero, Nat.mul_one]
set_option maxRecDepth 10000 in
set_option maxHeartbeats 2000000 in
theorem div_cong {A B A' B' : Nat} (hB : 0 < B) (hB' : 0 < B') (h : A * B' = A' * B) : A / B = A' / B' := by
  rw [← Nat.mul_div_mul_right A B hB', h, Nat.mul_comm B B', Nat.mul_div_mul_right A' B' hB]
set_option maxRecDepth 10000 in
set_option maxHeartbeats 2000000 in
theorem EX.d2i {q : UInt64} {c s : Nat} (h : EX q c (-(s : Int))) (hc : c < 2 ^ 53) (hs : s ≤ 1074) (hv : c / 2 ^ s < 2 ^ 31) : FP.d2i q = nI (c / 2 ^ s) := by
  obtain ⟨c', a, h3, h4⟩ := h.fin hc (by omega) (by omega)
  show FP.Core.d2i q = _
  apply Int32.toInt_inj.mp
  rw [nI_toInt hv]
  have e1 : c' * 2 ^ ((a : Int) - 1074).toNat / 2 ^ (-((a : Int) - 1074)).toNat = c / 2 ^ s := by
    refine div_cong (Nat.two_pow_pos _) (Nat.two_pow_pos _) ?_
    rw [Nat.mul_assoc, ← Nat.pow_add]
    exact pw_c h4 (by omega)
  have e2 : FP.Core.toInt (-2147483648) 2147483647 (FP.Core.val64 q) = ((c / 2 ^ s : Nat) : Int) := by
    rw [h3]
    show max (-2147483648) (min 2147483647 (FP.Core.signed false (c' * 2 ^ ((a : Int) - 1074).toNat / 2 ^ (-((a : Int) - 1074)).toNat))) = _
    rw [e1]
    show max (-2147483648) (min 2147483647 ((c / 2 ^ s : Nat) : Int)) = _
    generalize c / 2 ^ s = v at hv
    omega
  show (Int32.ofInt (FP.Core.toInt (-2 ^ 31) (2 ^ 31 - 1) (FP.Core.val64 q))).toInt = _
  rw [show ((-2 ^ 31 : Int)) = -2147483648 by decide, show ((2 : Int) ^ 31 - 1) = 2147483647 by decide, e2]
  exact nI_toInt hv
set_option maxRecDepth 10000 in
set_option maxHeartbeats 2000000 in
theorem EX.sub {q p : UInt64} {c d : Nat} {e : Int} (h : EX q c e) (hc : c < 2 ^ 53) (h1 : -1074 ≤ e) (h2 : e ≤ 971) (k : EX p d e) (hd : d < 2 ^ 53) (hdc : d ≤ c) : EX (FP.dsub q p) (c - d) e := by
  obtain ⟨c', a, h3, h4⟩ := h.fin hc h1 h2
  obtain ⟨d', b, k3, k4⟩ := k.fin hd h1 h2
  show FP.Core.val64 (FP.Core.dsub q p) = _
  rw [FP.Core.val64_dsub, h3, k3]
  obtain ⟨m, hm⟩ : ∃ m, m = min a b := ⟨_, rfl⟩
  have hmin : min ((a : Int) - 1074) ((b : Int) - 1074) = (m : Int) - 1074 := by omega
  obtain ⟨E, hE⟩ : ∃ E, E = (e + 1074).toNat := ⟨_, rfl⟩
  rw [← hE] at h4 k4
  have u1 : FP.Core.inUnits c' ((a : Int) - 1074) ((m : Int) - 1074) = c' * 2 ^ (a - m) := by
    unfold FP.Core.inUnits
    rw [show ((a : Int) - 1074 - ((m : Int) - 1074)).toNat = a - m by omega]
  have u2 : FP.Core.inUnits d' ((b : Int) - 1074) ((m : Int) - 1074) = d' * 2 ^ (b - m) := by
    unfold FP.Core.inUnits
    rw [show ((b : Int) - 1074 - ((m : Int) - 1074)).toNat = b - m by omega]
  have w1 : c' * 2 ^ (a - m) * 2 ^ m = c * 2 ^ E := by rw [Nat.mul_assoc, ← Nat.pow_add, show a - m + m = a by omega, h4]
  have w2 : d' * 2 ^ (b - m) * 2 ^ m = d * 2 ^ E := by rw [Nat.mul_assoc, ← Nat.pow_add, show b - m + m = b by omega, k4]
  have le : d' * 2 ^ (b - m) ≤ c' * 2 ^ (a - m) := by
    refine Nat.le_of_mul_le_mul_right ?_ (Nat.two_pow_pos m)
    rw [w1, w2]
    exact Nat.mul_le_mul_right _ hdc
  have su : FP.Core.sumUnits false c' ((a : Int) - 1074) true d' ((b : Int) - 1074) ((m : Int) - 1074) = ((c' * 2 ^ (a - m) - d' * 2 ^ (b - m) : Nat) : Int) := by
    unfold FP.Core.sumUnits
    rw [u1, u2]
    show ((c' * 2 ^ (a - m) : Nat) : Int) + -((d' * 2 ^ (b - m) : Nat) : Int) = _
    omega
  have es : FP.Core.exactSum (.fin false c' ((a : Int) - 1074)) (FP.Core.negate (.fin false d' ((b : Int) - 1074))) = .fin false (c' * 2 ^ (a - m) - d' * 2 ^ (b - m)) ((m : Int) - 1074) := by
    show FP.Core.Datum.fin (FP.Core.sumSign false true (FP.Core.sumUnits false c' ((a : Int) - 1074) true d' ((b : Int) - 1074) (min ((a : Int) - 1074) ((b : Int) - 1074)))) (FP.Core.sumUnits false c' ((a : Int) - 1074) true d' ((b : Int) - 1074) (min ((a : Int) - 1074) ((b : Int) - 1074))).natAbs (min ((a : Int) - 1074) ((b : Int) - 1074)) = _
    rw [hmin, su]
    generalize c' * 2 ^ (a - m) - d' * 2 ^ (b - m) = z
    have s0 : FP.Core.sumSign false true (z : Int) = false := by
      unfold FP.Core.sumSign
      split
      · rfl
      · simp
    rw [s0]
    rfl
  rw [es]
  refine FP.Core.roundRatio_congr (by decide) (by decide) ?_
  rw [Nat.mul_one, Nat.mul_one]
  have w3 : (c' * 2 ^ (a - m) - d' * 2 ^ (b - m)) * 2 ^ m = (c - d) * 2 ^ E := by
    rw [Nat.sub_mul, Nat.sub_mul, w1, w2]
  exact pw_c w3 (by omega)
set_option maxRecDepth 10000 in
set_option maxHeartbeats 2000000 in
theorem v05 : EX 4602678819172646912 1 (-1) := by
  unfold EX
  decide +kernel
set_option maxRecDepth 10000 in
set_option maxHeartbeats 2000000 in
theorem e_near {q : UInt64} {c s : Nat} (h : EX q c (-(s : Int))) (hc : c < 2 ^ 53) (hs : s ≤ 1000) (hv : c / 2 ^ s < 2 ^ 30) (hq : vf_n64 q) : r_nearest q = some (nI (FP.Core.nearest c (2 ^ s))) ∧ ne_rd q = nI (FP.Core.nearest c (2 ^ s)) := by
  have p2 := Nat.two_pow_pos s
  have di := h.d2i hc (by omega) (by omega)
  have hdm := Nat.div_add_mod c (2 ^ s)
  have hml := Nat.mod_lt c p2
  have hle : c / 2 ^ s * 2 ^ s ≤ c := Nat.div_mul_le_self _ _
  have ei : EX (FP.i2d (nI (c / 2 ^ s))) (c / 2 ^ s * 2 ^ s) (-(s : Int)) := by
    have := (EX.int (n := c / 2 ^ s) (by omega)).shift s
    rw [show (0 : Int) - (s : Int) = -(s : Int) by omega] at this
    exact this
  have e9 : c - c / 2 ^ s * 2 ^ s = c % 2 ^ s := by
    have := hdm
    rw [Nat.mul_comm] at this
    generalize c / 2 ^ s * 2 ^ s = Z at this ⊢
    generalize c % 2 ^ s = Y at this ⊢
    omega
  have ed : EX (FP.dsub q (FP.i2d (FP.d2i q))) (c % 2 ^ s) (-(s : Int)) := by
    have := h.sub hc (by omega) (by omega) ei (by omega) hle
    rw [← di, e9] at this
    exact this
  have vn : vf_n64 (FP.dsub q (FP.i2d (FP.d2i q))) := Fl.dsub_out hq (Fl.fin64_core.mpr (FP.Core.i2d_fin _))
  have cm := ed.cmp (by omega) (by omega) (by omega) v05 (by decide) (by omega) (by omega)
  obtain ⟨T, hT⟩ : ∃ T, T = (-(s : Int) + 1074).toNat := ⟨_, rfl⟩
  have e2 : 1 * 2 ^ ((-1 : Int) + 1074).toNat = 2 ^ 1073 := by rw [Nat.one_mul]; rfl
  rw [e2, ← hT] at cm
  have hTs : T + s = 1074 := by omega
  have key : (c % 2 ^ s * 2 ^ T < 2 ^ 1073 ↔ 2 * (c % 2 ^ s) < 2 ^ s) ∧ (c % 2 ^ s * 2 ^ T = 2 ^ 1073 ↔ 2 * (c % 2 ^ s) = 2 ^ s) := by
    have eP : 2 ^ s * 2 ^ T = 2 * 2 ^ 1073 := by
      rw [← Nat.pow_add, show s + T = 1073 + 1 by omega, Nat.pow_succ, Nat.mul_comm]
    have pT := Nat.two_pow_pos T
    generalize (2 : Nat) ^ 1073 = H at eP ⊢
    generalize 2 ^ s = S at *
    generalize 2 ^ T = U at *
    constructor
    · constructor
      · intro w
        apply Nat.lt_of_mul_lt_mul_right (a := U)
        rw [eP, Nat.mul_assoc]
        omega
      · intro w
        have := Nat.mul_lt_mul_of_pos_right w pT
        rw [eP, Nat.mul_assoc] at this
        omega
    · constructor
      · intro w
        apply Nat.eq_of_mul_eq_mul_right pT
        rw [eP, Nat.mul_assoc, w]
      · intro w
        have := congrArg (fun z => z * U) w
        change 2 * (c % S) * U = S * U at this
        rw [eP, Nat.mul_assoc] at this
        omega
  obtain ⟨v, hv'⟩ : ∃ v, v = c / 2 ^ s := ⟨_, rfl⟩
  rw [← hv'] at hv di
  have par : (nI v &&& 1 = 1 ↔ v % 2 = 1) ∧ (nI v - nI v / 2 * 2 = 1 ↔ v % 2 = 1) := by
    constructor
    · rw [pk_andN (by omega) 1 (by decide), show (1 : Int32) = nI 1 from rfl, nI_eq (by omega) (by omega)]
    · rw [show nI v - nI v / 2 * 2 = nI (v % 2) from pk_rem (d := 2) (by omega) (by omega) (by omega), show (1 : Int32) = nI 1 from rfl, nI_eq (by omega) (by omega)]
  have cv : ∀ o : Ordering, (0 < Op.cmpValue (some o) .l ↔ o = .gt) ∧ (Op.cmpValue (some o) .l = 0 ↔ o = .eq) := by
    intro o
    cases o <;> decide
  have ce : (compare (((c % 2 ^ s * 2 ^ T : Nat) : Int)) ((2 ^ 1073 : Nat) : Int) = .gt ↔ 2 ^ s < 2 * (c % 2 ^ s)) ∧ (compare (((c % 2 ^ s * 2 ^ T : Nat) : Int)) ((2 ^ 1073 : Nat) : Int) = .eq ↔ 2 * (c % 2 ^ s) = 2 ^ s) := by
    rw [FP.Core.compare_ite]
    generalize c % 2 ^ s * 2 ^ T = A at *
    generalize (2 : Nat) ^ 1073 = H at *
    obtain ⟨k1, k2⟩ := key
    by_cases a1 : A < H
    · rw [if_pos (by omega)]
      have := k1.mp a1
      constructor
      · constructor
        · intro w; cases w
        · omega
      · constructor
        · intro w; cases w
        · omega
    · rw [if_neg (by omega)]
      by_cases a2 : A = H
      · rw [if_pos (by omega)]
        have := k2.mp a2
        constructor
        · constructor
          · intro w; cases w
          · omega
        · exact ⟨fun _ => this, fun _ => rfl⟩
      · rw [if_neg (by omega)]
        have n1 : ¬ 2 * (c % 2 ^ s) < 2 ^ s := fun w => a1 (k1.mpr w)
        have n2 : ¬ 2 * (c % 2 ^ s) = 2 ^ s := fun w => a2 (k2.mpr w)
        constructor
        · exact ⟨fun _ => by omega, fun _ => rfl⟩
        · constructor
          · intro w; cases w
          · intro w; exact absurd w n2
  have g1 := (cv (compare (((c % 2 ^ s * 2 ^ T : Nat) : Int)) ((2 ^ 1073 : Nat) : Int))).1.trans ce.1
  have g2 := (cv (compare (((c % 2 ^ s * 2 ^ T : Nat) : Int)) ((2 ^ 1073 : Nat) : Int))).2.trans ce.2
  unfold r_nearest ne_rd j_nearest_31 j_nearest_37 FP.Core.nearest
  rw [og_t vn, cm, di, ← hv']
  generalize Op.cmpValue (some (compare (((c % 2 ^ s * 2 ^ T : Nat) : Int)) ((2 ^ 1073 : Nat) : Int))) .l = C at g1 g2
  by_cases a1 : 2 ^ s < 2 * (c % 2 ^ s)
  · rw [if_pos (g1.mpr a1), if_pos (Or.inl (g1.mpr a1)), if_neg (show ¬ 2 * (c % 2 ^ s) < 2 ^ s from fun w => Nat.lt_asymm a1 w), if_pos a1, nI_1]
    exact ⟨rfl, rfl⟩
  · rw [if_neg (fun w => a1 (g1.mp w))]
    by_cases a2 : 2 * (c % 2 ^ s) = 2 ^ s
    · rw [if_pos (g2.mpr a2), if_neg (show ¬ 2 * (c % 2 ^ s) < 2 ^ s by rw [a2]; exact Nat.lt_irrefl _), if_neg a1]
      by_cases a3 : v % 2 = 1
      · rw [if_pos (par.1.mpr a3), if_pos (Or.inr ⟨g2.mpr a2, par.2.mpr a3⟩), a3, nI_1]
        exact ⟨rfl, rfl⟩
      · rw [if_neg (fun w => a3 (par.1.mp w)), if_neg (show ¬ (0 < C ∨ C = 0 ∧ nI v - nI v / 2 * 2 = 1) from fun w => by rcases w with w | w; exact a1 (g1.mp w); exact a3 (par.2.mp w.2)), show v % 2 = 0 by omega, Nat.add_zero]
        exact ⟨rfl, rfl⟩
    · rw [if_neg (show ¬ C = 0 from fun w => a2 (g2.mp w)), if_pos (show 2 * (c % 2 ^ s) < 2 ^ s from Nat.lt_of_le_of_ne (Nat.le_of_not_lt a1) a2), if_neg (show ¬ (0 < C ∨ C = 0 ∧ nI v - nI v / 2 * 2 = 1) from fun w => by rcases w with w | w; exact a1 (g1.mp w); exact a2 (g2.mp w.1))]
      exact ⟨rfl, rfl⟩
