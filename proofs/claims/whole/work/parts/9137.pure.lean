set_option maxRecDepth 10000 in
set_option maxHeartbeats 2000000 in
theorem cv_lg (o : Ordering) : (Op.cmpValue (some o) .l = Op.cmpValue (some o) .g) := by cases o <;> rfl
set_option maxRecDepth 10000 in
set_option maxHeartbeats 2000000 in
theorem e_bitsFor (t x : Int32) (ht : t = 0 ∨ t = 1 ∨ t = 2) : r_bitsFor t (FP.dmul (FP.i2d x) 4593671619917905920) = some (sa_of t (FP.dmul (FP.i2d x) 4593671619917905920)) := by
  have hx := FP.Core.int32_abs x
  obtain ⟨w, hw⟩ : ∃ w, w = FP.dmul (FP.i2d x) 4593671619917905920 := ⟨_, rfl⟩
  obtain ⟨n, hn⟩ : ∃ n, n = x.toInt.natAbs := ⟨_, rfl⟩
  obtain ⟨s, hs⟩ : ∃ s, s = decide (x.toInt < 0) := ⟨_, rfl⟩
  have S := SX.w x
  rw [← hw] at S ⊢
  rw [← hn] at hx
  rw [← hs, ← hn] at S
  have c0 := S.cmp0 (by omega) (by omega) (by omega)
  have hs0 : s = true → 0 < n := by
    intro z
    rw [z] at hs
    have := of_decide_eq_true hs.symm
    omega
  have hge : (0 ≤ Op.cmpValue (FP.dcmp w FP.dconst0) .g ↔ s = false) ∧ (Op.cmpValue (FP.dcmp w FP.dconst0) .l < 0 ↔ s = true) := by
    rw [c0]
    by_cases z : n = 0
    · have : s = false := by cases s; rfl; exact absurd (hs0 rfl) (by omega)
      rw [if_pos z, this]
      decide
    · rw [if_neg z]
      cases s <;> decide
  obtain ⟨a, hA⟩ : ∃ a, a = sa_abs w := ⟨_, rfl⟩
  have ha : EX a n (-3) := by
    rw [hA]
    unfold sa_abs
    cases s
    · rw [if_pos (hge.1.mpr rfl)]
      exact S
    · rw [if_neg (fun k => by have := hge.1.mp k; cases this)]
      exact S.neg
  have hv : vf_n64 a := Fl.noNaN64_no.mpr ((FP.Core.notNaN_iff _).mpr ha.ne_nan)
  have e0 : r_bitsFor t w = j_bitsFor_12 t w a := by
    unfold r_bitsFor
    rw [hA]
    unfold sa_abs
    split <;> rfl
  rw [e0]
  unfold j_bitsFor_12 sa_of
  rcases ht with rfl | rfl | rfl
  · rw [if_neg (by decide), if_neg (by decide), if_pos rfl]
    have key : ∀ b0 : Int32, b0 = sa_hb w → j_bitsFor_84 0 w b0 = some (sa_half w) := by
      intro b0 hb
      unfold j_bitsFor_84 j_bitsFor_97 sa_half
      rw [← hb]
      cases s
      · rw [if_pos (hge.1.mpr rfl), if_neg (show ¬ Op.cmpValue (FP.dcmp w FP.dconst0) .l < 0 from fun k => by have := hge.2.mp k; cases this)]
        split <;> rfl
      · rw [if_neg (show ¬ 0 ≤ Op.cmpValue (FP.dcmp w FP.dconst0) .g from fun k => by have := hge.1.mp k; cases this), if_pos (hge.2.mpr rfl), if_neg (show ¬ (0 : Int32) = 1 by decide)]
        by_cases z : b0 = 0
        · rw [if_pos z, if_pos z]
        · rw [if_neg z, if_neg z]
    by_cases z : Op.cmpValue (FP.dcmp a 4679237813814689792) .l < 0
    · rw [if_pos z, e_half ha hx hv z, Option.bind_some]
      refine key _ ?_
      unfold sa_hb
      rw [← hA, if_pos z]
    · rw [if_neg z]
      refine key _ ?_
      unfold sa_hb
      rw [← hA, if_neg z]
  · rw [if_neg (by decide), if_pos rfl, if_neg (by decide), if_pos rfl]
    by_cases z : n = 0
    · have sf : s = false := by cases s; rfl; exact absurd (hs0 rfl) (by omega)
      have ha' : EX a n (((147 : Nat) : Int) - ((150 : Nat) : Int)) := ha
      have rf := ref_bits (m := 8388608) (E := 1) ha' hv (by omega) (by omega) (by omega) (by omega) (by omega) (Nat.le_refl _) (by omega) (by unfold PE; rw [z]; decide) (Or.inl rfl)
      have r0 : nI 8388608 * (nI 1 - 1) + nI (rn n 147 1) = 0 := by rw [z]; decide
      rw [r0] at rf
      have rf' : r_bitsOf a 8388608 149 = some 0 := rf
      rw [rf', Option.bind_some]
      have e3 : FP.Core.val32 (FP.d2f w) = .fin false 0 FP.Core.b32.qmin := by
        rw [FP.d2f_core ((FP.Core.notNaN_iff w).mpr S.ne_nan), FP.Core.val32_d2f, show FP.Core.val64 w = _ from S, sf, z]
        rfl
      have hm := f_mag e3 (fun k => by cases k)
      have hm' : EX (sa_fa (FP.d2f w)) 0 (((147 : Nat) : Int) - ((150 : Nat) : Int)) := hm.zero _
      have hv2 : vf_n64 (sa_fa (FP.d2f w)) := Fl.noNaN64_no.mpr ((FP.Core.notNaN_iff _).mpr hm.ne_nan)
      have c := cls_bits (n := 0) (D := 147) (B := 150) (m := 8388608) (E := 1) (top := 254) hm' hv2 (by omega) (by omega) (by omega) (by omega) (by omega) (by omega) (by omega) (Nat.le_refl _) (by omega) (by unfold PE; decide) (Or.inl rfl)
      have c' : ne_bits 8388608 150 254 (sa_fa (FP.d2f w)) = 0 := by
        refine c.trans ?_
        decide
      unfold j_bitsFor_84 j_bitsFor_97 sa_float
      rw [if_pos rfl, c', f_cmp0 e3, if_pos rfl, if_pos (by decide)]
    · obtain ⟨R, E, b1, b2, b3, b4, b5, b6, b7⟩ := e_flt S ha hv (by omega) hx
      rw [b5, Option.bind_some]
      unfold j_bitsFor_84 j_bitsFor_97 sa_float
      rw [b6, b7, if_neg (nI_ne0 (by omega) (by omega))]
      cases s
      · rw [if_neg (show ¬ Op.cmpValue (FP.dcmp w FP.dconst0) .l < 0 from fun k => by have := hge.2.mp k; cases this), if_pos (show 0 ≤ Op.cmpValue (some (if false = true then Ordering.lt else Ordering.gt)) .g by decide)]
      · rw [if_pos (hge.2.mpr rfl), if_pos (show (1 : Int32) = 1 from rfl), if_neg (show ¬ 0 ≤ Op.cmpValue (some (if true = true then Ordering.lt else Ordering.gt)) .g by decide)]
  · rw [if_pos (show (2 : Int32) = 2 from rfl), if_neg (show ¬ (2 : Int32) = 0 by decide), if_neg (show ¬ (2 : Int32) = 1 by decide)]
    unfold sa_whole
    cases s
    · rw [if_pos (hge.1.mpr rfl)]
      have hW : EX w n (-3) := S
      have di : FP.d2i w = nI (n / 2 ^ 3) := EX.d2i (s := 3) hW (by omega) (by omega) (by omega)
      have cm := hW.cmp (by omega) (by omega) (by omega) v65535 (by omega) (by omega) (by omega)
      have le : Op.cmpValue (FP.dcmp w 4679239875398991872) .l ≤ 0 ↔ n ≤ 524280 := by
        rw [cv_l, cm]
        have e1 : n * 2 ^ ((-3 : Int) + 1074).toNat = n * 2 ^ 1071 := by rw [show ((-3 : Int) + 1074).toNat = 1071 by omega]
        have e2 : 65535 * 2 ^ ((0 : Int) + 1074).toNat = 524280 * 2 ^ 1071 := by rw [show ((0 : Int) + 1074).toNat = 3 + 1071 by omega, Nat.pow_add, ← Nat.mul_assoc]
        rw [e1, e2]
        have p := Nat.two_pow_pos 1071
        generalize (2 : Nat) ^ 1071 = U at p
        rw [FP.Core.compare_ite]
        constructor
        · intro k
          rcases Nat.lt_or_ge 524280 n with q | q
          · have := Nat.mul_lt_mul_of_pos_right q p
            rw [if_neg (by omega), if_neg (by omega)] at k
            exact absurd rfl k
          · exact q
        · intro k
          have := Nat.mul_le_mul_right U k
          by_cases q : n * U < 524280 * U
          · rw [if_pos (by omega)]; decide
          · rw [if_neg (by omega), if_pos (by omega)]; decide
      rw [di]
      have hlt : ∀ k : Nat, k < 2 ^ 31 → (((65535 : Int32) < nI k) ↔ 65535 < k) := fun k hk => nI_ltI (a := 65535) (by omega) hk
      have hl0 : ∀ k : Nat, k < 2 ^ 31 → (((0 : Int32) < nI k) ↔ 0 < k) := fun k hk => nI_ltI (a := 0) (by omega) hk
      by_cases q : n ≤ 524280
      · rw [if_pos (le.mpr q)]
        have h1 : ¬ (65535 : Int32) < nI (n / 2 ^ 3) := fun k => by have := (hlt _ (by omega)).mp k; omega
        rw [if_neg h1]
        by_cases q0 : 0 < n / 2 ^ 3
        · rw [if_pos ((hl0 _ (by omega)).mpr q0)]
        · rw [if_neg (fun k => q0 ((hl0 _ (by omega)).mp k)), show n / 2 ^ 3 = 0 by omega]
          rfl
      · rw [if_neg (fun k => q (le.mp k))]
        by_cases q1 : 65535 < n / 2 ^ 3
        · rw [if_pos ((hlt _ (by omega)).mpr q1), if_pos (by decide)]
        · rw [if_neg (fun k => q1 ((hlt _ (by omega)).mp k)), show n / 2 ^ 3 = 65535 by omega, if_pos (by decide)]
          rfl
    · rw [if_neg (show ¬ 0 ≤ Op.cmpValue (FP.dcmp w FP.dconst0) .g from fun k => by have := hge.1.mp k; cases this)]
      have hle : (FP.d2i w).toInt ≤ 0 := by
        obtain ⟨c', q', h3, _⟩ := S.fin (by omega) (by omega) (by omega)
        have e2 : FP.Core.toInt (-2147483648) 2147483647 (FP.Core.val64 w) ≤ 0 ∧ -2147483648 ≤ FP.Core.toInt (-2147483648) 2147483647 (FP.Core.val64 w) := by
          rw [h3]
          show max (-2147483648) (min 2147483647 (-((c' * 2 ^ ((q' : Int) - 1074).toNat / 2 ^ (-((q' : Int) - 1074)).toNat : Nat) : Int))) ≤ 0 ∧ _ ≤ max (-2147483648) (min 2147483647 (-((c' * 2 ^ ((q' : Int) - 1074).toNat / 2 ^ (-((q' : Int) - 1074)).toNat : Nat) : Int)))
          generalize c' * 2 ^ ((q' : Int) - 1074).toNat / 2 ^ (-((q' : Int) - 1074)).toNat = v
          omega
        show (Int32.ofInt (FP.Core.toInt (-2 ^ 31) (2 ^ 31 - 1) (FP.Core.val64 w))).toInt ≤ 0
        rw [show ((-2 ^ 31 : Int)) = -2147483648 by decide, show ((2 : Int) ^ 31 - 1) = 2147483647 by decide, Int32.toInt_ofInt_of_le (by omega) (by omega)]
        exact e2.1
      have t6 : (65535 : Int32).toInt = 65535 := rfl
      have t0 : (0 : Int32).toInt = 0 := rfl
      have n1 : ¬ (65535 : Int32) < FP.d2i w := by rw [Int32.lt_iff_toInt_lt, t6]; omega
      have n2 : ¬ (0 : Int32) < FP.d2i w := by rw [Int32.lt_iff_toInt_lt, t0]; omega
      rw [if_neg n1, if_neg n2]
