def SX (q : UInt64) (s : Bool) (c : Nat) (e : Int) : Prop := FP.Core.val64 q = FP.Core.round FP.Core.b64 (.fin s c e)
set_option maxRecDepth 10000 in
set_option maxHeartbeats 2000000 in
theorem SX.fin {q : UInt64} {s : Bool} {c : Nat} {e : Int} (h : SX q s c e) (hc : c < 2 ^ 53) (h1 : -1074 ≤ e) (h2 : e ≤ 971) : ∃ (c' a : Nat), FP.Core.val64 q = .fin s c' ((a : Int) - 1074) ∧ c' * 2 ^ a = c * 2 ^ (e + 1074).toNat := by
  have hf := FP.Core.val64_fits q
  obtain ⟨c', q', h3, h4⟩ := FP.Core.round_exact FP.Core.good_b64 s (c := c) (q := e) hc (by rw [FP.Core.qmin_b64]; exact h1) (by rw [show FP.Core.b64.qmax = 971 by decide]; exact h2)
  unfold SX at h
  rw [h3] at h
  rw [h] at hf
  have hq : FP.Core.b64.qmin ≤ q' := hf.2.1
  rw [FP.Core.qmin_b64] at hq
  refine ⟨c', (q' + 1074).toNat, ?_, ?_⟩
  · rw [h, show (((q' + 1074).toNat : Int) - 1074) = q' by omega]
  · unfold FP.Core.inUnits at h4
    rw [FP.Core.qmin_b64, show q' - -1074 = q' + 1074 by omega, show e - -1074 = e + 1074 by omega] at h4
    exact h4
set_option maxRecDepth 10000 in
set_option maxHeartbeats 2000000 in
theorem v8 : FP.Core.val64 4593671619917905920 = .fin false (2 ^ 52) (-55) := by decide +kernel
set_option maxRecDepth 10000 in
set_option maxHeartbeats 2000000 in
theorem SX.w (x : Int32) : SX (FP.dmul (FP.i2d x) 4593671619917905920) (decide (x.toInt < 0)) x.toInt.natAbs (-3) := by
  have hx := FP.Core.int32_abs x
  have h0 : SX (FP.i2d x) (decide (x.toInt < 0)) x.toInt.natAbs 0 := FP.Core.val64_i2d x
  obtain ⟨c', a, h3, h4⟩ := h0.fin (by omega) (by omega) (by omega)
  show FP.Core.val64 (FP.Core.dmul (FP.i2d x) 4593671619917905920) = _
  rw [FP.Core.val64_dmul, h3, v8]
  show FP.Core.roundRatio FP.Core.b64 (decide (x.toInt < 0) != false) (c' * 2 ^ 52) 1 _ = FP.Core.roundRatio FP.Core.b64 (decide (x.toInt < 0)) x.toInt.natAbs 1 (-3)
  rw [show (decide (x.toInt < 0) != false) = decide (x.toInt < 0) by cases decide (x.toInt < 0) <;> rfl]
  refine FP.Core.roundRatio_congr (by decide) (by decide) ?_
  rw [Nat.mul_one, Nat.mul_one, Nat.mul_assoc, ← Nat.pow_add]
  exact pw_c h4 (by omega)
set_option maxRecDepth 10000 in
set_option maxHeartbeats 2000000 in
theorem SX.ne_nan {q : UInt64} {s : Bool} {c : Nat} {e : Int} (h : SX q s c e) : FP.Core.val64 q ≠ .nan := by
  rw [show FP.Core.val64 q = _ from h]
  exact FP.Core.roundRatio_ne_nan _ _ _ _ _
set_option maxRecDepth 10000 in
set_option maxHeartbeats 2000000 in
theorem SX.neg {q : UInt64} {s : Bool} {c : Nat} {e : Int} (h : SX q s c e) : SX (FP.dneg q) (!s) c e := by
  show FP.Core.val64 (FP.dneg q) = _
  rw [FP.dneg_core ((FP.Core.notNaN_iff q).mpr h.ne_nan), FP.Core.val64_dneg, show FP.Core.val64 q = _ from h, FP.Core.negate_round]
  rfl
set_option maxRecDepth 10000 in
set_option maxHeartbeats 2000000 in
theorem SX.vn {q : UInt64} {s : Bool} {c : Nat} {e : Int} (h : SX q s c e) : vf_n64 q := Fl.noNaN64_no.mpr ((FP.Core.notNaN_iff q).mpr h.ne_nan)
set_option maxRecDepth 10000 in
set_option maxHeartbeats 2000000 in
theorem SX.cmp0 {q : UInt64} {s : Bool} {c : Nat} {e : Int} (h : SX q s c e) (hc : c < 2 ^ 53) (h1 : -1074 ≤ e) (h2 : e ≤ 971) : FP.dcmp q FP.dconst0 = some (if c = 0 then .eq else if s = true then .lt else .gt) := by
  obtain ⟨c', a, h3, h4⟩ := h.fin hc h1 h2
  have hz : c' = 0 ↔ c = 0 := by
    have p1 := Nat.two_pow_pos a
    have p2 := Nat.two_pow_pos (e + 1074).toNat
    constructor
    · intro z
      rw [z, Nat.zero_mul] at h4
      rcases Nat.mul_eq_zero.mp h4.symm with w | w <;> omega
    · intro z
      rw [z, Nat.zero_mul] at h4
      rcases Nat.mul_eq_zero.mp h4 with w | w <;> omega
  show FP.Core.order (FP.Core.val64 q) (FP.Core.val64 FP.dconst0) = _
  rw [h3, show FP.Core.val64 FP.dconst0 = .fin false 0 FP.Core.b64.qmin from FP.Core.val64_dconst0]
  show some (compare (FP.Core.signed s (FP.Core.inUnits c' _ _)) (FP.Core.signed false (FP.Core.inUnits 0 _ _))) = _
  have e0 : ∀ q r : Int, FP.Core.inUnits 0 q r = 0 := fun q r => Nat.zero_mul _
  rw [e0, FP.Core.signed_zero]
  congr 1
  unfold FP.Core.signed FP.Core.inUnits
  by_cases z : c = 0
  · rw [if_pos z, hz.mpr z, Nat.zero_mul]
    cases s <;> decide
  · rw [if_neg z]
    have : 0 < c' := Nat.pos_of_ne_zero (fun w => z (hz.mp w))
    rw [FP.Core.compare_ite]
    have hp : 0 < c' * 2 ^ ((a : Int) - 1074 - min ((a : Int) - 1074) FP.Core.b64.qmin).toNat := Nat.mul_pos this (Nat.two_pow_pos _)
    generalize c' * 2 ^ ((a : Int) - 1074 - min ((a : Int) - 1074) FP.Core.b64.qmin).toNat = z at hp
    cases s
    · simp only [Bool.false_eq_true, if_false]
      rw [if_neg (by omega), if_neg (by omega)]
    · simp only [if_true]
      rw [if_pos (by omega)]
set_option maxRecDepth 10000 in
set_option maxHeartbeats 2000000 in
theorem PE_ex {n D m : Nat} : ∀ top : Nat, 1 ≤ top → PE n D m top → ∃ E, 1 ≤ E ∧ E ≤ top ∧ PE n D m E ∧ (E = 1 ∨ ¬ PE n D m (E - 1)) := by
  intro top
  induction top with
  | zero => intro h; omega
  | succ t ih =>
    intro h1 hP
    by_cases z : t = 0
    · exact ⟨1, Nat.le_refl _, by omega, by rw [z] at hP; exact hP, Or.inl rfl⟩
    · by_cases w : n * 2 ^ D < 2 * m * 2 ^ t
      · obtain ⟨E, a, b, c, d⟩ := ih (by omega) w
        exact ⟨E, a, by omega, c, d⟩
      · exact ⟨t + 1, by omega, Nat.le_refl _, hP, Or.inr w⟩
set_option maxRecDepth 10000 in
set_option maxHeartbeats 2000000 in
theorem v65520 : EX 4679237813814689792 65520 0 := by
  unfold EX
  decide +kernel
set_option maxRecDepth 10000 in
set_option maxHeartbeats 2000000 in
theorem v65535 : EX 4679239875398991872 65535 0 := by
  unfold EX
  decide +kernel
set_option maxRecDepth 10000 in
set_option maxHeartbeats 2000000 in
theorem e_half {a : UInt64} {n : Nat} (h : EX a n (-3)) (hn : n ≤ 2 ^ 31) (hq : vf_n64 a) (hlt : Op.cmpValue (FP.dcmp a 4679237813814689792) .l < 0) : r_bitsOf a 1024 24 = some (ne_bits 1024 25 30 a) := by
  have hlt2 : n < 524160 := by
    rw [(cv_lt _).1] at hlt
    rcases hlt with w | w
    · rw [h.cmp (by omega) (by omega) (by omega) v65520 (by omega) (by omega) (by omega)] at w
      have w1 := (cmp_lt_iff _ _).mp (Option.some.inj w)
      rw [show ((-3 : Int) + 1074).toNat = 1071 by omega, show ((0 : Int) + 1074).toNat = 3 + 1071 by omega, Nat.pow_add, ← Nat.mul_assoc] at w1
      have := Nat.lt_of_mul_lt_mul_right w1
      omega
    · rw [FP.Core.dcmp_none] at w
      rcases w with w | w
      · exact absurd w h.ne_nan
      · exact absurd w v65520.ne_nan
  have h' : EX a n (((22 : Nat) : Int) - ((25 : Nat) : Int)) := h
  obtain ⟨E, e1, e2, e3, e4⟩ := PE_ex (n := n) (D := 22) (m := 1024) 30 (by omega) (by unfold PE; omega)
  have r := ref_bits (m := 1024) (E := E) h' hq (by omega) (by omega) (by omega) (by omega) (by omega) e1 (by omega) e3 e4
  have c := cls_bits (m := 1024) (E := E) (top := 30) h' hq (by omega) (by omega) (by omega) (by omega) (by omega) (by omega) (by omega) e1 e2 e3 e4
  show r_bitsOf a (nI 1024) (nI (25 - 1)) = some (ne_bits (nI 1024) 25 30 a)
  rw [r, c]
