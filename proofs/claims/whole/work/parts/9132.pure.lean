set_option maxRecDepth 10000 in
set_option maxHeartbeats 2000000 in
theorem fl_s0 {q : UInt64} (h : vf_n64 q) : vf_n64 (FP.dsub FP.dconst0 q) := Fl.dsub_out' (show Fl.Fin64 FP.dconst0 by unfold Fl.Fin64; decide) h
set_option maxRecDepth 10000 in
set_option maxHeartbeats 2000000 in
theorem EX.neg {q : UInt64} {c : Nat} {e : Int} (h : EX q c e) (hc : c < 2 ^ 53) (h1 : -1074 ≤ e) (h2 : e ≤ 971) : FP.dsub FP.dconst0 q = if c = 0 then q else FP.dneg q := by
  have hf := FP.Core.val64_fits q
  have hn : FP.Core.val64 q ≠ .nan := by rw [show FP.Core.val64 q = _ from h]; exact FP.Core.roundRatio_ne_nan _ _ _ _ _
  by_cases z : c = 0
  · rw [if_pos z]
    have e0 : FP.Core.val64 q = .fin false 0 FP.Core.b64.qmin := by rw [show FP.Core.val64 q = _ from h, z]; rfl
    refine (FP.Core.val64_inj hn ?_).symm
    rw [e0]
    show _ = FP.Core.val64 (FP.Core.dsub FP.dconst0 q)
    rw [FP.Core.val64_dsub, e0, show FP.Core.val64 FP.dconst0 = .fin false 0 FP.Core.b64.qmin from FP.Core.val64_dconst0]
    decide +kernel
  · rw [if_neg z, FP.dneg_core (show FP.dIsNaN q = false from (FP.Core.notNaN_iff q).mpr hn)]
    obtain ⟨c', a, h3, h4⟩ := h.fin hc h1 h2
    have hz : c' ≠ 0 := by
      intro w
      rw [w, Nat.zero_mul] at h4
      have p2 := Nat.two_pow_pos (e + 1074).toNat
      rcases Nat.mul_eq_zero.mp h4.symm with w | w <;> omega
    refine (FP.Core.val64_inj ?_ ?_).symm
    · show FP.Core.val64 (FP.Core.dneg q) ≠ .nan
      rw [FP.Core.val64_dneg, h3]
      intro w
      cases w
    · show FP.Core.val64 (FP.Core.dneg q) = FP.Core.val64 (FP.Core.dsub FP.dconst0 q)
      rw [FP.Core.val64_dneg, FP.Core.val64_dsub, show FP.Core.val64 FP.dconst0 = .fin false 0 FP.Core.b64.qmin from FP.Core.val64_dconst0, FP.Core.exactSum_comm]
      refine (FP.Core.round_sum_zero FP.Core.good_b64 (FP.Core.negate_fits hf) false ?_).symm
      intro s q' w
      rw [h3] at w
      injection w with w1 w2 w3
      exact absurd w2 hz
set_option maxRecDepth 10000 in
set_option maxHeartbeats 2000000 in
theorem EX.fin1 {q : UInt64} {c : Nat} {e : Int} (h : EX q c e) (hc : c < 2 ^ 53) (h1 : -1074 ≤ e) (h2 : e ≤ 971) : tp_fin 1 q = FP.dsub FP.dconst0 q := by
  rw [h.neg hc h1 h2]
  unfold tp_fin
  rw [if_neg (by decide)]
  by_cases z : c = 0
  · rw [if_pos z, if_pos ((h.le0 hc h1 h2).mpr z)]
  · rw [if_neg z, if_neg (fun w => z ((h.le0 hc h1 h2).mp w))]
set_option maxRecDepth 10000 in
set_option maxHeartbeats 2000000 in
theorem e_told (t b : Int32) (ht : t = 0 ∨ t = 1 ∨ t = 2) : r_told t b = some (sa_told t b) := by
  have hb := b.toBitVec.isLt
  unfold r_told sa_told
  rcases ht with rfl | rfl | rfl
  · rw [if_neg (by decide), if_neg (by decide), if_pos rfl]
    have en : b &&& 32767 = nI (b.toBitVec.toNat % 2 ^ 15) := pk_and b 15 (by decide)
    obtain ⟨n, hn⟩ : ∃ n, n = b.toBitVec.toNat % 2 ^ 15 := ⟨_, rfl⟩
    rw [← hn] at en
    have hn2 : n < 2 ^ 15 := by omega
    have eE : sa_eh b = n / 1024 := by
      unfold sa_eh mj_ush
      rw [pk_ushr b 10 10 (by decide), hn]
      omega
    have ef : b &&& 1023 = nI (n % 1024) := by
      rw [pk_and b 10 (by decide), hn, show b.toBitVec.toNat % 2 ^ 15 % 1024 = b.toBitVec.toNat % 2 ^ 10 by omega]
    obtain ⟨q, a1, a2, a3⟩ := e_valueOf (m := 1024) (l := 24) (n := n) (by omega) (by omega) (by omega) (by omega) (by omega)
    have b1 := e_tpall (m := 1024) (B := 25) (n := n) (f := b &&& 1023) (one := 1024) (by omega) (by omega) (by omega) (by omega) (by omega) (by omega) ef rfl
    have hc : tc 1024 n < 2 ^ 53 := by unfold tc; split <;> omega
    have hM : tp_M (n / 1024) ≤ 600 := by unfold tp_M; split <;> omega
    have hM1 := tpM1 (n / 1024)
    have eq : tp_dn 25 25 (tp_M (n / 1024)) (tp_up (tp_M (n / 1024) - 25) (tp_sz (n / 1024) (b &&& 1023) 1024)) = q := b1.uniq a2
    rw [en, show ((1024 : Int32)) = nI 1024 from rfl, show (24 : Int32) = nI 24 from rfl, a1, Option.bind_some]
    unfold tp_all
    rw [eE, show nI 1024 = (1024 : Int32) from rfl, eq]
    by_cases z : b ≤ 32767
    · have z2 : b < 32768 := by
        rw [Int32.le_iff_toInt_le] at z
        rw [Int32.lt_iff_toInt_lt]
        have : (32767 : Int32).toInt = 32767 := rfl
        have : (32768 : Int32).toInt = 32768 := rfl
        omega
      rw [if_pos z, if_pos z2]
      rfl
    · have z2 : ¬ b < 32768 := by
        rw [Int32.le_iff_toInt_le] at z
        rw [Int32.lt_iff_toInt_lt]
        have : (32767 : Int32).toInt = 32767 := rfl
        have : (32768 : Int32).toInt = 32768 := rfl
        omega
      rw [if_neg z, if_neg z2, og_t (fl_s0 a3), a2.fin1 hc (by omega) (by omega)]
  · rw [if_neg (by decide), if_pos rfl, if_neg (by decide), if_pos rfl]
    have en : b &&& 2147483647 = nI (b.toBitVec.toNat % 2 ^ 31) := pk_and b 31 (by decide)
    obtain ⟨n, hn⟩ : ∃ n, n = b.toBitVec.toNat % 2 ^ 31 := ⟨_, rfl⟩
    rw [← hn] at en
    have hn2 : n < 2 ^ 31 := by omega
    have eE : sa_ef b = n / 8388608 := by
      unfold sa_ef mj_ush
      rw [pk_ushr b 23 23 (by decide), hn]
      omega
    have ef : b &&& 8388607 = nI (n % 8388608) := by
      rw [pk_and b 23 (by decide), hn, show b.toBitVec.toNat % 2 ^ 31 % 8388608 = b.toBitVec.toNat % 2 ^ 23 by omega]
    obtain ⟨q, a1, a2, a3⟩ := e_valueOf (m := 8388608) (l := 149) (n := n) (by omega) (by omega) (by omega) (by omega) (by omega)
    have b1 := e_tpall (m := 8388608) (B := 150) (n := n) (f := b &&& 8388607) (one := 8388608) (by omega) (by omega) (by omega) (by omega) (by omega) (by omega) ef rfl
    have hc : tc 8388608 n < 2 ^ 53 := by unfold tc; split <;> omega
    have hM : tp_M (n / 8388608) ≤ 600 := by unfold tp_M; split <;> omega
    have hM1 := tpM1 (n / 8388608)
    have eq : tp_dn 150 150 (tp_M (n / 8388608)) (tp_up (tp_M (n / 8388608) - 150) (tp_sz (n / 8388608) (b &&& 8388607) 8388608)) = q := b1.uniq a2
    rw [en, show ((8388608 : Int32)) = nI 8388608 from rfl, show (149 : Int32) = nI 149 from rfl, a1, Option.bind_some]
    unfold tp_all
    rw [eE, show nI 8388608 = (8388608 : Int32) from rfl, eq]
    by_cases z : 0 ≤ b
    · rw [if_pos z, if_pos z]
      rfl
    · rw [if_neg z, if_neg z, og_t (fl_s0 a3), a2.fin1 hc (by omega) (by omega)]
  · rw [if_pos rfl, if_neg (by decide), if_neg (by decide)]
