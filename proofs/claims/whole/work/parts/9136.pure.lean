set_option maxRecDepth 10000 in
set_option maxHeartbeats 2000000 in
theorem f_val {w : UInt64} {s : Bool} {n E : Nat} (h : SX w s n (-3)) (hn0 : 0 < n) (hn : n ≤ 2 ^ 31) (hE1 : 124 ≤ E) (hE2 : E ≤ 160) (hP : PE n 147 8388608 E) (hL : ¬ PE n 147 8388608 (E - 1)) : rn n 147 E ≤ 16777216 ∧ 8388608 ≤ rn n 147 E ∧ FP.Core.val32 (FP.d2f w) = (if rn n 147 E < 16777216 then .fin s (rn n 147 E) ((E : Int) - 150) else .fin s 8388608 ((E : Int) - 149)) := by
  have P1 : n * 2 ^ 147 < 2 ^ 24 * 2 ^ E := hP
  have P2 : 2 ^ 23 * 2 ^ E ≤ n * 2 ^ 147 := by
    have : ¬ n * 2 ^ 147 < 2 * 8388608 * 2 ^ (E - 1) := hL
    rw [show 2 ^ 23 * 2 ^ E = 2 * 8388608 * 2 ^ (E - 1) by rw [show (2 : Nat) ^ E = 2 ^ (E - 1 + 1) by rw [show E - 1 + 1 = E by omega], Nat.pow_succ]; omega]
    omega
  rw [FP.d2f_core ((FP.Core.notNaN_iff w).mpr h.ne_nan), FP.Core.val32_d2f]
  obtain ⟨c', a, h3, h4⟩ := h.fin (by omega) (by omega) (by omega)
  have er : FP.Core.round FP.Core.b32 (FP.Core.val64 w) = FP.Core.roundRatio FP.Core.b32 s n 1 (-3) := by
    rw [h3]
    refine FP.Core.roundRatio_congr (by decide) (by decide) ?_
    rw [Nat.mul_one, Nat.mul_one]
    exact pw_c h4 (by omega)
  rw [er]
  have bl : ∀ (k : Nat), FP.Core.Below n 1 ((E : Int) - 150 - -3 + k) ↔ n * 2 ^ 147 < 2 ^ k * 2 ^ E := by
    intro k
    rw [show (E : Int) - 150 - -3 + k = ((E + k : Nat) : Int) - (147 : Nat) by omega, FP.Core.below_iff, Nat.one_mul, Nat.pow_add, Nat.mul_comm (2 ^ E)]
  have hq : FP.Core.quantum FP.Core.b32 n 1 (-3) = (E : Int) - 150 := by
    refine FP.Core.quantum_eq hn0 (by decide) ?_ ?_ (Or.inr ?_)
    · rw [FP.Core.qmin_b32]; omega
    · exact (bl 24).mpr P1
    · show ¬ FP.Core.Below n 1 ((E : Int) - 150 - -3 + ((24 : Int) - 1))
      rw [show ((24 : Int) - 1) = ((23 : Nat) : Int) by omega, bl 23]
      omega
  have hr : FP.Core.nearest (FP.Core.unitsNum n (-3) ((E : Int) - 150)) (FP.Core.unitsDen 1 (-3) ((E : Int) - 150)) = rn n 147 E := by
    unfold FP.Core.unitsNum FP.Core.unitsDen rn
    rw [Nat.one_mul]
    by_cases z : E ≤ 147
    · rw [if_pos z, show ((-3 : Int) - ((E : Int) - 150)).toNat = 147 - E by omega, show ((E : Int) - 150 - -3).toNat = 0 by omega]
      have := FP.Core.nearest_exact (B := 1) (n * 2 ^ (147 - E)) (by omega)
      rw [Nat.mul_one] at this
      exact this
    · rw [if_neg z, show ((-3 : Int) - ((E : Int) - 150)).toNat = 0 by omega, show ((E : Int) - 150 - -3).toNat = E - 147 by omega, Nat.pow_zero, Nat.mul_one]
  have hle : rn n 147 E ≤ 16777216 := by
    have := FP.Core.nearest_units_le (f := FP.Core.b32) (A := n) (B := 1) hn0 (by decide) (-3)
    rw [hq, hr] at this
    exact this
  have hge : 8388608 ≤ rn n 147 E := by
    rw [← hr]
    refine FP.Core.nearest_ge (FP.Core.unitsDen_pos (by decide) _ _) ?_
    have nb : ¬ FP.Core.Below n 1 ((E : Int) - 150 - -3 + (23 : Nat)) := by rw [bl 23]; omega
    have := mt (FP.Core.units_below n 1 (-3) ((E : Int) - 150) 23).mp nb
    exact Nat.le_of_not_lt this
  refine ⟨hle, hge, ?_⟩
  unfold FP.Core.roundRatio FP.Core.roundAt
  rw [if_neg (by omega), hq, hr]
  unfold FP.Core.settle FP.Core.bound
  have qm : FP.Core.b32.qmax = 104 := by decide
  have tl : FP.Core.b32.tails = 8388608 := by decide
  rw [qm, tl]
  show (if rn n 147 E < 2 ^ 24 then _ else _) = _
  by_cases z : rn n 147 E < 16777216
  · rw [if_pos z, if_pos (show rn n 147 E < 2 ^ 24 from z), if_pos (by omega)]
  · rw [if_neg z, if_neg (show ¬ rn n 147 E < 2 ^ 24 from z), if_pos (by omega), show (E : Int) - 150 + 1 = (E : Int) - 149 by omega]
set_option maxRecDepth 10000 in
set_option maxHeartbeats 2000000 in
theorem f_cmp0 {f : UInt32} {s : Bool} {c : Nat} {e : Int} (h : FP.Core.val32 f = .fin s c e) : FP.fcmp f FP.fconst0 = some (if c = 0 then .eq else if s = true then .lt else .gt) := by
  show FP.Core.order (FP.Core.val32 f) (FP.Core.val32 FP.fconst0) = _
  rw [h, show FP.Core.val32 FP.fconst0 = .fin false 0 FP.Core.b32.qmin from FP.Core.val32_fconst0]
  show some (compare (FP.Core.signed s (FP.Core.inUnits c _ _)) (FP.Core.signed false (FP.Core.inUnits 0 _ _))) = _
  have e0 : ∀ q r : Int, FP.Core.inUnits 0 q r = 0 := fun q r => Nat.zero_mul _
  rw [e0, FP.Core.signed_zero]
  congr 1
  unfold FP.Core.signed FP.Core.inUnits
  by_cases z : c = 0
  · rw [if_pos z, z, Nat.zero_mul]
    cases s <;> decide
  · rw [if_neg z]
    have : 0 < c := Nat.pos_of_ne_zero z
    rw [FP.Core.compare_ite]
    have hp : 0 < c * 2 ^ (e - min e FP.Core.b32.qmin).toNat := Nat.mul_pos this (Nat.two_pow_pos _)
    generalize c * 2 ^ (e - min e FP.Core.b32.qmin).toNat = z at hp
    cases s
    · simp only [Bool.false_eq_true, if_false]
      rw [if_neg (by omega), if_neg (by omega)]
    · simp only [if_true]
      rw [if_pos (by omega)]
set_option maxRecDepth 10000 in
set_option maxHeartbeats 2000000 in
theorem f_mag {f : UInt32} {s : Bool} {c : Nat} {e : Int} (h : FP.Core.val32 f = .fin s c e) (hs : s = true → 0 < c) : EX (sa_fa f) c e := by
  have hn : FP.Core.val32 f ≠ .nan := by rw [h]; intro w; cases w
  unfold sa_fa
  rw [f_cmp0 h]
  by_cases z : s = true
  · subst z
    have hc := hs rfl
    rw [if_neg (show ¬ c = 0 by omega), if_pos rfl, if_neg (by decide)]
    have hn2 : FP.Core.val32 (FP.fneg f) ≠ .nan := by rw [FP.val32_fneg, h]; intro w; cases w
    rw [FP.f2d_core ((FP.Core.notNaN_iff32 _).mpr hn2)]
    show FP.Core.val64 _ = _
    rw [FP.Core.val64_f2d, FP.val32_fneg, h]
    rfl
  · have z2 : s = false := by cases s; rfl; exact absurd rfl z
    subst z2
    have : 0 ≤ Op.cmpValue (some (if c = 0 then Ordering.eq else if false = true then .lt else .gt)) .g := by
      by_cases y : c = 0
      · rw [if_pos y]; decide
      · rw [if_neg y, if_neg (by decide)]; decide
    rw [if_pos this, FP.f2d_core ((FP.Core.notNaN_iff32 _).mpr hn)]
    show FP.Core.val64 _ = _
    rw [FP.Core.val64_f2d, h]
set_option maxRecDepth 10000 in
set_option maxHeartbeats 2000000 in
theorem e_flt {w a : UInt64} {s : Bool} {n : Nat} (h : SX w s n (-3)) (ha : EX a n (-3)) (hq : vf_n64 a) (hn0 : 0 < n) (hn : n ≤ 2 ^ 31) : ∃ R E : Nat, 124 ≤ E ∧ E ≤ 160 ∧ 8388608 ≤ R ∧ R ≤ 16777216 ∧ r_bitsOf a 8388608 149 = some (nI (8388608 * (E - 1) + R)) ∧ ne_bits 8388608 150 254 (sa_fa (FP.d2f w)) = nI (8388608 * (E - 1) + R) ∧ FP.fcmp (FP.d2f w) FP.fconst0 = some (if s = true then .lt else .gt) := by
  obtain ⟨E, e1, e2, e3, e4⟩ := PE_ex (n := n) (D := 147) (m := 8388608) 160 (by omega) (by
    unfold PE
    calc n * 2 ^ 147 ≤ 2 ^ 31 * 2 ^ 147 := Nat.mul_le_mul_right _ hn
      _ < 2 * 8388608 * 2 ^ 160 := by decide)
  have hE : 124 ≤ E := by
    rcases Nat.lt_or_ge E 124 with q | q
    · exfalso
      have := e3.mono (e' := 123) (by omega)
      unfold PE at this
      have : 1 * 2 ^ 147 ≤ n * 2 ^ 147 := Nat.mul_le_mul_right _ hn0
      omega
    · exact q
  have e4' : ¬ PE n 147 8388608 (E - 1) := by
    rcases e4 with q | q
    · omega
    · exact q
  obtain ⟨r1, r2, r3⟩ := f_val h hn0 hn hE e2 e3 e4'
  obtain ⟨R, hR⟩ : ∃ R, R = rn n 147 E := ⟨_, rfl⟩
  rw [← hR] at r1 r2 r3
  have ha' : EX a n (((147 : Nat) : Int) - ((150 : Nat) : Int)) := ha
  have rf := ref_bits (m := 8388608) (E := E) ha' hq (by omega) (by omega) (by omega) (by omega) (by omega) e1 (by omega) e3 e4
  rw [← hR] at rf
  have one : nI 8388608 * (nI E - 1) + nI R = nI (8388608 * (E - 1) + R) := by
    rw [show (1 : Int32) = nI 1 from rfl, pk_sub e1, pk_mul, nI_add]
  rw [one] at rf
  refine ⟨R, E, hE, e2, r2, r1, rf, ?_, ?_⟩
  · by_cases z : R < 16777216
    · rw [if_pos z] at r3
      have hm := f_mag r3 (fun _ => by omega)
      have hv : vf_n64 (sa_fa (FP.d2f w)) := Fl.noNaN64_no.mpr ((FP.Core.notNaN_iff _).mpr hm.ne_nan)
      have c := cls_bits (n := R) (D := E) (B := 150) (m := 8388608) (E := E) (top := 254) hm hv (by omega) (by omega) (by omega) (by omega) (by omega) (by omega) (by omega) e1 (by omega) (by
        unfold PE
        exact Nat.mul_lt_mul_of_pos_right (by omega) (Nat.two_pow_pos E)) (Or.inr (by
        unfold PE
        rw [show 2 * 8388608 * 2 ^ (E - 1) = 8388608 * 2 ^ E by rw [show (2 : Nat) ^ E = 2 ^ (E - 1 + 1) by rw [show E - 1 + 1 = E by omega], Nat.pow_succ]; omega]
        exact fun k => absurd (Nat.lt_of_mul_lt_mul_right k) (by omega)))
      rw [show rn R E E = R by unfold rn; rw [if_pos (Nat.le_refl _), Nat.sub_self, Nat.pow_zero, Nat.mul_one], one] at c
      exact c
    · rw [if_neg z] at r3
      have hm := f_mag r3 (fun _ => by omega)
      have hv : vf_n64 (sa_fa (FP.d2f w)) := Fl.noNaN64_no.mpr ((FP.Core.notNaN_iff _).mpr hm.ne_nan)
      have hm' : EX (sa_fa (FP.d2f w)) 8388608 (((E + 1 : Nat) : Int) - ((150 : Nat) : Int)) := by
        rw [show (((E + 1 : Nat) : Int) - ((150 : Nat) : Int)) = (E : Int) - 149 by omega]
        exact hm
      have c := cls_bits (n := 8388608) (D := E + 1) (B := 150) (m := 8388608) (E := E + 1) (top := 254) hm' hv (by omega) (by omega) (by omega) (by omega) (by omega) (by omega) (by omega) (by omega) (by omega) (by
        unfold PE
        exact Nat.mul_lt_mul_of_pos_right (by omega) (Nat.two_pow_pos (E + 1))) (Or.inr (by
        unfold PE
        rw [show E + 1 - 1 = E by omega, Nat.pow_succ]
        omega))
      rw [show rn 8388608 (E + 1) (E + 1) = 8388608 by unfold rn; rw [if_pos (Nat.le_refl _), Nat.sub_self, Nat.pow_zero, Nat.mul_one], show (1 : Int32) = nI 1 from rfl, pk_sub (by omega), pk_mul, nI_add] at c
      rw [show 8388608 * (E - 1) + R = 8388608 * (E + 1 - 1) + 8388608 by omega]
      exact c
  · by_cases z : R < 16777216
    · rw [if_pos z] at r3
      rw [f_cmp0 r3, if_neg (show ¬ R = 0 by omega)]
    · rw [if_neg z] at r3
      rw [f_cmp0 r3, if_neg (by decide)]
