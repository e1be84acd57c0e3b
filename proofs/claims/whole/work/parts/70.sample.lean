/-! Sample: doubles -/
theorem fl_2 : Fl.Fin64 4611686018427387904 := by unfold Fl.Fin64; decide
theorem fl_2z : Fl.Nz64 4611686018427387904 := by unfold Fl.Nz64; decide
theorem fl_m2 {q : UInt64} (h : vf_n64 q) : vf_n64 (FP.dmul q 4611686018427387904) := Fl.dmul_outNz h fl_2 fl_2z
theorem fl_d2 {q : UInt64} (h : vf_n64 q) : vf_n64 (FP.ddiv q 4611686018427387904) := Fl.ddiv_out h fl_2 fl_2z
theorem fl_si {q : UInt64} (h : vf_n64 q) (w : Int32) : vf_n64 (FP.dsub q (FP.i2d w)) := Fl.dsub_out h (Fl.i2d_fin w)
theorem fl_2i (w : Int32) : vf_n64 (FP.dmul 4611686018427387904 (FP.i2d w)) := Fl.dmul_out fl_2 (Fl.i2d_fin w)
theorem fl_fin {x : UInt64} (h : Fl.Fin64 x) : vf_n64 x := Nat.le_of_lt h
theorem fl_i (w : Int32) : vf_n64 (FP.i2d w) := fl_fin (Fl.i2d_fin w)
def ne_up (one : Int32) (top : Nat) : Nat → Nat → UInt64 → Nat × UInt64
  | 0, e, q => (e, q)
  | j + 1, e, q => if e < top ∧ ¬ Op.cmpValue (FP.dcmp q (FP.dmul 4611686018427387904 (FP.i2d one))) .l < 0 then ne_up one top j (e + 1) (FP.ddiv q 4611686018427387904) else (e, q)
def ne_dn (one : Int32) : Nat → Nat → UInt64 → Nat × UInt64
  | 0, e, q => (e, q)
  | j + 1, e, q => if 1 < e ∧ ¬ 0 ≤ Op.cmpValue (FP.dcmp q (FP.i2d one)) .g then ne_dn one j (e - 1) (FP.dmul q 4611686018427387904) else (e, q)
def ne_rd (q : UInt64) : Int32 := if 0 < Op.cmpValue (FP.dcmp (FP.dsub q (FP.i2d (FP.d2i q))) 4602678819172646912) .l ∨ (Op.cmpValue (FP.dcmp (FP.dsub q (FP.i2d (FP.d2i q))) 4602678819172646912) .l = 0 ∧ FP.d2i q - FP.d2i q / 2 * 2 = 1) then FP.d2i q + 1 else FP.d2i q
theorem ne_up_in (one : Int32) (top : Nat) : ∀ (j e : Nat) (q : UInt64), vf_n64 q → e ≤ top → vf_n64 (ne_up one top j e q).2 ∧ (ne_up one top j e q).1 ≤ top
  | 0, _, _, h, g => ⟨h, g⟩
  | j + 1, e, q, h, g => by
    unfold ne_up
    split
    · rename_i c
      exact ne_up_in one top j (e + 1) _ (fl_d2 h) c.1
    · exact ⟨h, g⟩
theorem ne_dn_in (one : Int32) : ∀ (j e : Nat) (q : UInt64), vf_n64 q → vf_n64 (ne_dn one j e q).2 ∧ (ne_dn one j e q).1 ≤ e
  | 0, _, _, h => ⟨h, Nat.le_refl _⟩
  | j + 1, e, q, h => by
    unfold ne_dn
    split
    · obtain ⟨a, b⟩ := ne_dn_in one j (e - 1) _ (fl_m2 h)
      exact ⟨a, by omega⟩
    · exact ⟨h, Nat.le_refl _⟩
def ne_st (one : Int32) (bias top : Nat) (q : UInt64) : Nat × UInt64 := ne_dn one (ne_up one top (top - bias) bias q).1 (ne_up one top (top - bias) bias q).1 (ne_up one top (top - bias) bias q).2
def ne_bits (one : Int32) (bias top : Nat) (q : UInt64) : Int32 := one * (nI (ne_st one bias top q).1 - 1) + ne_rd (ne_st one bias top q).2
set_option maxRecDepth 100000 in
set_option maxHeartbeats 4000000 in
theorem lp_Sa_nearest_u {Q : mj_E → mj_H → Prop} {h : mj_H} {kc ks bias top : Nat} {one : Int32} {q0 : UInt64} (ht : top < 2 ^ 30) : ∀ (j e : Nat) (q : UInt64), vf_n64 q → e + j = top → mj_W M_Sa_nearest Q (0, 0, none) kc ks 39 [some (.double q0), none, some (.int one), some (.int (nI bias)), some (.int (nI top)), some (.int (nI ((ne_up one top j e q).1))), some (.double (ne_up one top j e q).2), none, none, none, none] [] h → mj_W M_Sa_nearest Q (0, 0, none) kc ks 6 [some (.double q0), none, some (.int one), some (.int (nI bias)), some (.int (nI top)), some (.int (nI e)), some (.double q), none, none, none, none] [] h := by
  intro j
  induction j with
  | zero =>
    intro e q hq he kk
    refine mj_iload d_Sa_nearest_6 rfl ?_
    refine mj_iload d_Sa_nearest_8 rfl ?_
    refine mj_icmp_ge (tgt := 39) d_Sa_nearest_10 (by decide) (fun c_10 => ?_) (fun c_10 => ?_)
    · exact kk
    · exact absurd (nI_le (by omega) (by omega)) c_10
  | succ j ih =>
    intro e q hq he kk
    refine mj_iload d_Sa_nearest_6 rfl ?_
    refine mj_iload d_Sa_nearest_8 rfl ?_
    refine mj_icmp_ge (tgt := 39) d_Sa_nearest_10 (by decide) (fun c_10 => ?_) (fun c_10 => ?_)
    · exact absurd c_10 (nI_ge (by omega) (by omega))
    · refine mj_dload d_Sa_nearest_13 rfl ?_
      refine mj_ldc2d d_Sa_nearest_15 kd_Sa_52 ?_
      refine mj_iload_n d_Sa_nearest_18 rfl ?_
      refine mj_i2d d_Sa_nearest_19 ?_
      refine mj_dmul d_Sa_nearest_20 (fl_2i one) ?_
      refine mj_dcmp d_Sa_nearest_21 ?_
      refine mj_if_lt (tgt := 39) d_Sa_nearest_22 (by decide) (fun c_22 => ?_) (fun c_22 => ?_)
      · rw [show ne_up one top (j + 1) e q = (e, q) by rw [ne_up, if_neg (fun g => g.2 c_22)]] at kk
        exact kk
      · refine mj_dload d_Sa_nearest_25 rfl ?_
        refine mj_ldc2d d_Sa_nearest_27 kd_Sa_52 ?_
        refine mj_ddiv d_Sa_nearest_30 (fl_d2 hq) ?_
        refine mj_topd (fun v1 e_v1 => ?_)
        refine mj_dstore (L' := [some (.double q0), none, some (.int one), some (.int (nI bias)), some (.int (nI top)), some (.int (nI e)), some (.double v1), none, none, none, none]) d_Sa_nearest_31 (by decide) rfl rfl ?_
        obtain ⟨v2, e_v2⟩ : ∃ q_ : Int32, q_ = (nI e) + 1 := ⟨_, rfl⟩
        refine mj_iinc (x := (nI e)) (v := v2) (L' := [some (.double q0), none, some (.int one), some (.int (nI bias)), some (.int (nI top)), some (.int v2), some (.double v1), none, none, none, none]) d_Sa_nearest_33 rfl (by rw [e_v2]; rfl) (by decide) rfl rfl ?_
        refine mj_goto (tgt := 6) d_Sa_nearest_36 (by decide) ?_
        rw [e_v2, nI_1, e_v1]
        rw [show ne_up one top (j + 1) e q = ne_up one top j (e + 1) (FP.ddiv q 4611686018427387904) by rw [ne_up, if_pos ⟨by omega, c_22⟩]] at kk
        exact ih (e + 1) _ (fl_d2 hq) (by omega) kk
set_option maxRecDepth 100000 in
set_option maxHeartbeats 4000000 in
theorem lp_Sa_nearest_d {Q : mj_E → mj_H → Prop} {h : mj_H} {kc ks bias top : Nat} {one : Int32} {q0 : UInt64} : ∀ (j e : Nat) (q : UInt64), vf_n64 q → e ≤ j → e < 2 ^ 30 → mj_W M_Sa_nearest Q (0, 0, none) kc ks 67 [some (.double q0), none, some (.int one), some (.int (nI bias)), some (.int (nI top)), some (.int (nI ((ne_dn one j e q).1))), some (.double (ne_dn one j e q).2), none, none, none, none] [] h → mj_W M_Sa_nearest Q (0, 0, none) kc ks 39 [some (.double q0), none, some (.int one), some (.int (nI bias)), some (.int (nI top)), some (.int (nI e)), some (.double q), none, none, none, none] [] h := by
  intro j
  induction j with
  | zero =>
    intro e q hq he he2 kk
    refine mj_iload d_Sa_nearest_39 rfl ?_
    refine mj_iconst (v := 1) d_Sa_nearest_41 (by decide) ?_
    refine mj_icmp_le (tgt := 67) d_Sa_nearest_42 (by decide) (fun c_42 => ?_) (fun c_42 => ?_)
    · exact kk
    · exact absurd (nI_le (a := e) (b := 1) (by omega) (by decide)) c_42
  | succ j ih =>
    intro e q hq he he2 kk
    refine mj_iload d_Sa_nearest_39 rfl ?_
    refine mj_iconst (v := 1) d_Sa_nearest_41 (by decide) ?_
    refine mj_icmp_le (tgt := 67) d_Sa_nearest_42 (by decide) (fun c_42 => ?_) (fun c_42 => ?_)
    · rw [show ne_dn one (j + 1) e q = (e, q) by rw [ne_dn, if_neg (fun g => nI_ge (a := 1) (b := e) g.1 (by omega) c_42)]] at kk
      exact kk
    · refine mj_dload d_Sa_nearest_45 rfl ?_
      refine mj_iload_n d_Sa_nearest_47 rfl ?_
      refine mj_i2d d_Sa_nearest_48 ?_
      refine mj_dcmp d_Sa_nearest_49 ?_
      refine mj_if_ge (tgt := 67) d_Sa_nearest_50 (by decide) (fun c_50 => ?_) (fun c_50 => ?_)
      · rw [show ne_dn one (j + 1) e q = (e, q) by rw [ne_dn, if_neg (fun g => g.2 c_50)]] at kk
        exact kk
      · refine mj_dload d_Sa_nearest_53 rfl ?_
        refine mj_ldc2d d_Sa_nearest_55 kd_Sa_52 ?_
        refine mj_dmul d_Sa_nearest_58 (fl_m2 hq) ?_
        refine mj_topd (fun v1 e_v1 => ?_)
        refine mj_dstore (L' := [some (.double q0), none, some (.int one), some (.int (nI bias)), some (.int (nI top)), some (.int (nI e)), some (.double v1), none, none, none, none]) d_Sa_nearest_59 (by decide) rfl rfl ?_
        obtain ⟨v2, e_v2⟩ : ∃ q_ : Int32, q_ = (nI e) + (-1) := ⟨_, rfl⟩
        refine mj_iinc (x := (nI e)) (v := v2) (L' := [some (.double q0), none, some (.int one), some (.int (nI bias)), some (.int (nI top)), some (.int v2), some (.double v1), none, none, none, none]) d_Sa_nearest_61 rfl (by rw [e_v2]; rfl) (by decide) rfl rfl ?_
        refine mj_goto (tgt := 39) d_Sa_nearest_64 (by decide) ?_
        have h1 : 1 < e := by
          rcases Nat.lt_or_ge 1 e with g | g
          · exact g
          · exact absurd (nI_le (a := e) (b := 1) g (by decide)) c_42
        rw [e_v2, show nI e + (-1) = nI (e - 1) by obtain ⟨k, rfl⟩ : ∃ k, e = k + 1 := ⟨e - 1, by omega⟩; exact pk_m1 k, e_v1]
        rw [show ne_dn one (j + 1) e q = ne_dn one j (e - 1) (FP.dmul q 4611686018427387904) by rw [ne_dn, if_pos ⟨h1, c_50⟩]] at kk
        exact ih (e - 1) _ (fl_m2 hq) (by omega) (by omega) kk
set_option maxRecDepth 100000 in
set_option maxHeartbeats 4000000 in
theorem c_Sa_nearest {h : mj_H} {one : Int32} {bias top : Nat} {q0 : UInt64} (hq : vf_n64 q0) (hb : bias ≤ top) (ht : top < 2 ^ 30) : mj_Met M_Sa_nearest (0, 0, none) 0 0 [.double q0, .int one, .int (nI bias), .int (nI top)] h (mj_q (some (.int (ne_bits one bias top q0))) h) := by
  refine mj_enter (r := 6) rfl rfl (by decide) rfl ?_
  show mj_W M_Sa_nearest _ _ _ _ 0 [some (.double q0), none, some (.int one), some (.int (nI bias)), some (.int (nI top)), none, none, none, none, none, none] [] h
  refine mj_iload_n d_Sa_nearest_0 rfl ?_
  refine mj_istore (L' := [some (.double q0), none, some (.int one), some (.int (nI bias)), some (.int (nI top)), some (.int (nI bias)), none, none, none, none, none]) d_Sa_nearest_1 (by decide) rfl rfl ?_
  refine mj_dload_n d_Sa_nearest_3 rfl ?_
  refine mj_dstore (L' := [some (.double q0), none, some (.int one), some (.int (nI bias)), some (.int (nI top)), some (.int (nI bias)), some (.double q0), none, none, none, none]) d_Sa_nearest_4 (by decide) rfl rfl ?_
  have i1 := ne_up_in one top (top - bias) bias q0 hq hb
  have i2 := ne_dn_in one (ne_up one top (top - bias) bias q0).1 (ne_up one top (top - bias) bias q0).1 (ne_up one top (top - bias) bias q0).2 i1.1
  refine lp_Sa_nearest_u ht (top - bias) bias q0 hq (by omega) ?_
  refine lp_Sa_nearest_d (ne_up one top (top - bias) bias q0).1 (ne_up one top (top - bias) bias q0).1 (ne_up one top (top - bias) bias q0).2 i1.1 (Nat.le_refl _) (by omega) ?_
  have hq2 : vf_n64 (ne_st one bias top q0).2 := i2.1
  unfold ne_bits
  show mj_W M_Sa_nearest _ _ _ _ 67 [some (.double q0), none, some (.int one), some (.int (nI bias)), some (.int (nI top)), some (.int (nI ((ne_st one bias top q0).1))), some (.double (ne_st one bias top q0).2), none, none, none, none] [] h
  obtain ⟨e1, e_e1⟩ : ∃ q_, q_ = (ne_st one bias top q0).1 := ⟨_, rfl⟩
  obtain ⟨q1, e_q1⟩ : ∃ q_, q_ = (ne_st one bias top q0).2 := ⟨_, rfl⟩
  rw [← e_e1, ← e_q1]
  rw [← e_q1] at hq2
  refine mj_dload d_Sa_nearest_67 rfl ?_
  refine mj_d2i d_Sa_nearest_69 ?_
  refine mj_topi (fun v1 e_v1 => ?_)
  refine mj_istore (L' := [some (.double q0), none, some (.int one), some (.int (nI bias)), some (.int (nI top)), some (.int (nI e1)), some (.double q1), none, some (.int v1), none, none]) d_Sa_nearest_70 (by decide) rfl rfl ?_
  refine mj_dload d_Sa_nearest_72 rfl ?_
  refine mj_iload d_Sa_nearest_74 rfl ?_
  refine mj_i2d d_Sa_nearest_76 ?_
  refine mj_dsub d_Sa_nearest_77 (fl_si hq2 _) ?_
  refine mj_topd (fun v2 e_v2 => ?_)
  refine mj_dstore (L' := [some (.double q0), none, some (.int one), some (.int (nI bias)), some (.int (nI top)), some (.int (nI e1)), some (.double q1), none, some (.int v1), some (.double v2), none]) d_Sa_nearest_78 (by decide) rfl rfl ?_
  refine mj_dload d_Sa_nearest_80 rfl ?_
  refine mj_ldc2d d_Sa_nearest_82 kd_Sa_54 ?_
  refine mj_dcmp d_Sa_nearest_85 ?_
  refine mj_if_gt (tgt := 106) d_Sa_nearest_86 (by decide) (fun c_86 => ?_) (fun c_86 => ?_)
  · rw [e_v2, e_v1] at c_86
    have er : ne_rd q1 = FP.d2i q1 + 1 := by unfold ne_rd; exact if_pos (Or.inl c_86)
    obtain ⟨v3, e_v3⟩ : ∃ q_ : Int32, q_ = v1 + 1 := ⟨_, rfl⟩
    refine mj_iinc (x := v1) (v := v3) (L' := [some (.double q0), none, some (.int one), some (.int (nI bias)), some (.int (nI top)), some (.int (nI e1)), some (.double q1), none, some (.int v3), some (.double v2), none]) d_Sa_nearest_106 rfl (by rw [e_v3]; rfl) (by decide) rfl rfl ?_
    refine mj_iload_n d_Sa_nearest_109 rfl ?_
    refine mj_iload d_Sa_nearest_110 rfl ?_
    refine mj_iconst (v := 1) d_Sa_nearest_112 (by decide) ?_
    refine mj_isub d_Sa_nearest_113 ?_
    refine mj_imul d_Sa_nearest_114 ?_
    refine mj_iload d_Sa_nearest_115 rfl ?_
    refine mj_iadd d_Sa_nearest_117 ?_
    exact mj_iret rfl d_Sa_nearest_118 ⟨by rw [er, e_v3, e_v1], rfl⟩
  · refine mj_dload d_Sa_nearest_89 rfl ?_
    refine mj_ldc2d d_Sa_nearest_91 kd_Sa_54 ?_
    refine mj_dcmp d_Sa_nearest_94 ?_
    refine mj_if_ne (tgt := 109) d_Sa_nearest_95 (by decide) (fun c_95 => ?_) (fun c_95 => ?_)
    · rw [e_v2, e_v1] at c_86 c_95
      have er : ne_rd q1 = FP.d2i q1 := by unfold ne_rd; exact if_neg (fun g => g.elim c_86 (fun k => c_95 k.1))
      refine mj_iload_n d_Sa_nearest_109 rfl ?_
      refine mj_iload d_Sa_nearest_110 rfl ?_
      refine mj_iconst (v := 1) d_Sa_nearest_112 (by decide) ?_
      refine mj_isub d_Sa_nearest_113 ?_
      refine mj_imul d_Sa_nearest_114 ?_
      refine mj_iload d_Sa_nearest_115 rfl ?_
      refine mj_iadd d_Sa_nearest_117 ?_
      exact mj_iret rfl d_Sa_nearest_118 ⟨by rw [er, e_v1], rfl⟩
    · refine mj_iload d_Sa_nearest_98 rfl ?_
      refine mj_iconst (v := 2) d_Sa_nearest_100 (by decide) ?_
      refine mj_irem d_Sa_nearest_101 (by decide) ?_
      refine mj_iconst (v := 1) d_Sa_nearest_102 (by decide) ?_
      refine mj_icmp_ne (tgt := 109) d_Sa_nearest_103 (by decide) (fun c_103 => ?_) (fun c_103 => ?_)
      · rw [e_v2, e_v1] at c_86 c_95
        rw [e_v1] at c_103
        have er : ne_rd q1 = FP.d2i q1 := by unfold ne_rd; exact if_neg (fun g => g.elim c_86 (fun k => c_103 k.2))
        refine mj_iload_n d_Sa_nearest_109 rfl ?_
        refine mj_iload d_Sa_nearest_110 rfl ?_
        refine mj_iconst (v := 1) d_Sa_nearest_112 (by decide) ?_
        refine mj_isub d_Sa_nearest_113 ?_
        refine mj_imul d_Sa_nearest_114 ?_
        refine mj_iload d_Sa_nearest_115 rfl ?_
        refine mj_iadd d_Sa_nearest_117 ?_
        exact mj_iret rfl d_Sa_nearest_118 ⟨by rw [er, e_v1], rfl⟩
      · rw [e_v2, e_v1] at c_95
        rw [e_v1] at c_103
        have er : ne_rd q1 = FP.d2i q1 + 1 := by unfold ne_rd; exact if_pos (Or.inr ⟨c_95, c_103⟩)
        obtain ⟨v4, e_v4⟩ : ∃ q_ : Int32, q_ = v1 + 1 := ⟨_, rfl⟩
        refine mj_iinc (x := v1) (v := v4) (L' := [some (.double q0), none, some (.int one), some (.int (nI bias)), some (.int (nI top)), some (.int (nI e1)), some (.double q1), none, some (.int v4), some (.double v2), none]) d_Sa_nearest_106 rfl (by rw [e_v4]; rfl) (by decide) rfl rfl ?_
        refine mj_iload_n d_Sa_nearest_109 rfl ?_
        refine mj_iload d_Sa_nearest_110 rfl ?_
        refine mj_iconst (v := 1) d_Sa_nearest_112 (by decide) ?_
        refine mj_isub d_Sa_nearest_113 ?_
        refine mj_imul d_Sa_nearest_114 ?_
        refine mj_iload d_Sa_nearest_115 rfl ?_
        refine mj_iadd d_Sa_nearest_117 ?_
        exact mj_iret rfl d_Sa_nearest_118 ⟨by rw [er, e_v4, e_v1], rfl⟩
theorem fl_neg {q : UInt64} (h : vf_n64 q) : vf_n64 (FP.dneg q) := (Fl.dneg_iff q).mpr h
def sa_abs (v : UInt64) : UInt64 := if 0 ≤ Op.cmpValue (FP.dcmp v FP.dconst0) .g then v else FP.dneg v
theorem sa_abs_n {v : UInt64} (h : vf_n64 v) : vf_n64 (sa_abs v) := by unfold sa_abs; split; exact h; exact fl_neg h
def sa_hb (v : UInt64) : Int32 := if Op.cmpValue (FP.dcmp (sa_abs v) 4679237813814689792) .l < 0 then ne_bits 1024 25 30 (sa_abs v) else 31743
def sa_half (v : UInt64) : Int32 := if 0 ≤ Op.cmpValue (FP.dcmp v FP.dconst0) .g then sa_hb v else if sa_hb v = 0 then sa_hb v else sa_hb v + 32768
set_option maxRecDepth 100000 in
set_option maxHeartbeats 4000000 in
theorem c_Sa_ofHalf {h : mj_H} {v : UInt64} (hv : vf_n64 v) : mj_Met M_Sa_ofHalf (1, 30, none) 0 0 [.double v] h (mj_q (some (.int (sa_half v))) h) := by
  refine mj_enter (r := 3) rfl rfl (by decide) rfl ?_
  show mj_W M_Sa_ofHalf _ _ _ _ 0 [some (.double v), none, none, none, none] [] h
  refine mj_dload_n d_Sa_ofHalf_0 rfl ?_
  refine mj_dconst0 d_Sa_ofHalf_1 ?_
  refine mj_dcmp d_Sa_ofHalf_2 ?_
  refine mj_if_ge (tgt := 11) d_Sa_ofHalf_3 (by decide) (fun c_3 => ?_) (fun c_3 => ?_)
  · refine mj_dload_n d_Sa_ofHalf_11 rfl ?_
    refine mj_dstore_n (L' := [some (.double v), none, some (.double v), none, none]) d_Sa_ofHalf_12 (by decide) rfl rfl ?_
    have ea : sa_abs v = v := by unfold sa_abs; rw [if_pos c_3]
    have na := sa_abs_n hv
    rw [ea] at na
    refine mj_dload_n d_Sa_ofHalf_13 rfl ?_
    refine mj_ldc2d d_Sa_ofHalf_14 kd_Sa_35 ?_
    refine mj_dcmp d_Sa_ofHalf_17 ?_
    refine mj_if_lt (tgt := 27) d_Sa_ofHalf_18 (by decide) (fun c_18 => ?_) (fun c_18 => ?_)
    · refine mj_dload_n d_Sa_ofHalf_27 rfl ?_
      refine mj_sipush (v := 1024) d_Sa_ofHalf_28 (by decide) ?_
      refine mj_bipush (v := 25) d_Sa_ofHalf_31 (by decide) ?_
      refine mj_bipush (v := 30) d_Sa_ofHalf_33 (by decide) ?_
      refine mj_cS (S := []) (S1 := [.int (ne_bits 1024 25 30 v)]) (c_Sa_nearest (one := 1024) (bias := 25) (top := 30) (q0 := v) na (by decide) (by decide)) d_Sa_ofHalf_35 cw_Sa_nearest ml_Sa_37 st_Sa_nearest (by decide) rfl (Nat.le_of_ble_eq_true rfl) rfl rfl ?_
      refine mj_topi (fun v1 e_v1 => ?_)
      refine mj_istore (L' := [some (.double v), none, some (.double v), none, some (.int v1)]) d_Sa_ofHalf_38 (by decide) rfl rfl ?_
      have eb : sa_hb v = v1 := by unfold sa_hb; rw [ea, if_pos c_18, e_v1]
      refine mj_dload_n d_Sa_ofHalf_40 rfl ?_
      refine mj_dconst0 d_Sa_ofHalf_41 ?_
      refine mj_dcmp d_Sa_ofHalf_42 ?_
      refine mj_if_ge (tgt := 59) d_Sa_ofHalf_43 (by decide) (fun c_43 => ?_) (fun c_43 => ?_)
      · refine mj_iload d_Sa_ofHalf_59 rfl ?_
        exact mj_iret rfl d_Sa_ofHalf_61 ⟨by unfold sa_half; rw [if_pos c_43, eb], rfl⟩
      · refine mj_iload d_Sa_ofHalf_46 rfl ?_
        refine mj_if_eq (tgt := 59) d_Sa_ofHalf_48 (by decide) (fun c_48 => ?_) (fun c_48 => ?_)
        · refine mj_iload d_Sa_ofHalf_59 rfl ?_
          exact mj_iret rfl d_Sa_ofHalf_61 ⟨by unfold sa_half; rw [if_neg c_43, eb, if_pos c_48], rfl⟩
        · refine mj_iload d_Sa_ofHalf_51 rfl ?_
          refine mj_ldc d_Sa_ofHalf_53 k_Sa_23 ?_
          refine mj_iadd d_Sa_ofHalf_55 ?_
          refine mj_goto (tgt := 61) d_Sa_ofHalf_56 (by decide) ?_
          exact mj_iret rfl d_Sa_ofHalf_61 ⟨by unfold sa_half; rw [if_neg c_43, eb, if_neg c_48], rfl⟩
    · refine mj_sipush (v := 31743) d_Sa_ofHalf_21 (by decide) ?_
      refine mj_goto (tgt := 38) d_Sa_ofHalf_24 (by decide) ?_
      refine mj_istore (L' := [some (.double v), none, some (.double v), none, some (.int 31743)]) d_Sa_ofHalf_38 (by decide) rfl rfl ?_
      have eb : sa_hb v = 31743 := by unfold sa_hb; rw [ea, if_neg c_18]
      refine mj_dload_n d_Sa_ofHalf_40 rfl ?_
      refine mj_dconst0 d_Sa_ofHalf_41 ?_
      refine mj_dcmp d_Sa_ofHalf_42 ?_
      refine mj_if_ge (tgt := 59) d_Sa_ofHalf_43 (by decide) (fun c_43 => ?_) (fun c_43 => ?_)
      · refine mj_iload d_Sa_ofHalf_59 rfl ?_
        exact mj_iret rfl d_Sa_ofHalf_61 ⟨by unfold sa_half; rw [if_pos c_43, eb], rfl⟩
      · refine mj_iload d_Sa_ofHalf_46 rfl ?_
        refine mj_if_eq (tgt := 59) d_Sa_ofHalf_48 (by decide) (fun c_48 => ?_) (fun c_48 => ?_)
        · refine mj_iload d_Sa_ofHalf_59 rfl ?_
          exact mj_iret rfl d_Sa_ofHalf_61 ⟨by unfold sa_half; rw [if_neg c_43, eb, if_pos c_48], rfl⟩
        · refine mj_iload d_Sa_ofHalf_51 rfl ?_
          refine mj_ldc d_Sa_ofHalf_53 k_Sa_23 ?_
          refine mj_iadd d_Sa_ofHalf_55 ?_
          refine mj_goto (tgt := 61) d_Sa_ofHalf_56 (by decide) ?_
          exact mj_iret rfl d_Sa_ofHalf_61 ⟨by unfold sa_half; rw [if_neg c_43, eb, if_neg c_48], rfl⟩
  · refine mj_dload_n d_Sa_ofHalf_6 rfl ?_
    refine mj_dneg d_Sa_ofHalf_7 ?_
    refine mj_goto (tgt := 12) d_Sa_ofHalf_8 (by decide) ?_
    refine mj_topd (fun v2 e_v2 => ?_)
    refine mj_dstore_n (L' := [some (.double v), none, some (.double v2), none, none]) d_Sa_ofHalf_12 (by decide) rfl rfl ?_
    have ea : sa_abs v = v2 := by unfold sa_abs; rw [if_neg c_3, e_v2]
    have na := sa_abs_n hv
    rw [ea] at na
    refine mj_dload_n d_Sa_ofHalf_13 rfl ?_
    refine mj_ldc2d d_Sa_ofHalf_14 kd_Sa_35 ?_
    refine mj_dcmp d_Sa_ofHalf_17 ?_
    refine mj_if_lt (tgt := 27) d_Sa_ofHalf_18 (by decide) (fun c_18 => ?_) (fun c_18 => ?_)
    · refine mj_dload_n d_Sa_ofHalf_27 rfl ?_
      refine mj_sipush (v := 1024) d_Sa_ofHalf_28 (by decide) ?_
      refine mj_bipush (v := 25) d_Sa_ofHalf_31 (by decide) ?_
      refine mj_bipush (v := 30) d_Sa_ofHalf_33 (by decide) ?_
      refine mj_cS (S := []) (S1 := [.int (ne_bits 1024 25 30 v2)]) (c_Sa_nearest (one := 1024) (bias := 25) (top := 30) (q0 := v2) na (by decide) (by decide)) d_Sa_ofHalf_35 cw_Sa_nearest ml_Sa_37 st_Sa_nearest (by decide) rfl (Nat.le_of_ble_eq_true rfl) rfl rfl ?_
      refine mj_topi (fun v3 e_v3 => ?_)
      refine mj_istore (L' := [some (.double v), none, some (.double v2), none, some (.int v3)]) d_Sa_ofHalf_38 (by decide) rfl rfl ?_
      have eb : sa_hb v = v3 := by unfold sa_hb; rw [ea, if_pos c_18, e_v3]
      refine mj_dload_n d_Sa_ofHalf_40 rfl ?_
      refine mj_dconst0 d_Sa_ofHalf_41 ?_
      refine mj_dcmp d_Sa_ofHalf_42 ?_
      refine mj_if_ge (tgt := 59) d_Sa_ofHalf_43 (by decide) (fun c_43 => ?_) (fun c_43 => ?_)
      · refine mj_iload d_Sa_ofHalf_59 rfl ?_
        exact mj_iret rfl d_Sa_ofHalf_61 ⟨by unfold sa_half; rw [if_pos c_43, eb], rfl⟩
      · refine mj_iload d_Sa_ofHalf_46 rfl ?_
        refine mj_if_eq (tgt := 59) d_Sa_ofHalf_48 (by decide) (fun c_48 => ?_) (fun c_48 => ?_)
        · refine mj_iload d_Sa_ofHalf_59 rfl ?_
          exact mj_iret rfl d_Sa_ofHalf_61 ⟨by unfold sa_half; rw [if_neg c_43, eb, if_pos c_48], rfl⟩
        · refine mj_iload d_Sa_ofHalf_51 rfl ?_
          refine mj_ldc d_Sa_ofHalf_53 k_Sa_23 ?_
          refine mj_iadd d_Sa_ofHalf_55 ?_
          refine mj_goto (tgt := 61) d_Sa_ofHalf_56 (by decide) ?_
          exact mj_iret rfl d_Sa_ofHalf_61 ⟨by unfold sa_half; rw [if_neg c_43, eb, if_neg c_48], rfl⟩
    · refine mj_sipush (v := 31743) d_Sa_ofHalf_21 (by decide) ?_
      refine mj_goto (tgt := 38) d_Sa_ofHalf_24 (by decide) ?_
      refine mj_istore (L' := [some (.double v), none, some (.double v2), none, some (.int 31743)]) d_Sa_ofHalf_38 (by decide) rfl rfl ?_
      have eb : sa_hb v = 31743 := by unfold sa_hb; rw [ea, if_neg c_18]
      refine mj_dload_n d_Sa_ofHalf_40 rfl ?_
      refine mj_dconst0 d_Sa_ofHalf_41 ?_
      refine mj_dcmp d_Sa_ofHalf_42 ?_
      refine mj_if_ge (tgt := 59) d_Sa_ofHalf_43 (by decide) (fun c_43 => ?_) (fun c_43 => ?_)
      · refine mj_iload d_Sa_ofHalf_59 rfl ?_
        exact mj_iret rfl d_Sa_ofHalf_61 ⟨by unfold sa_half; rw [if_pos c_43, eb], rfl⟩
      · refine mj_iload d_Sa_ofHalf_46 rfl ?_
        refine mj_if_eq (tgt := 59) d_Sa_ofHalf_48 (by decide) (fun c_48 => ?_) (fun c_48 => ?_)
        · refine mj_iload d_Sa_ofHalf_59 rfl ?_
          exact mj_iret rfl d_Sa_ofHalf_61 ⟨by unfold sa_half; rw [if_neg c_43, eb, if_pos c_48], rfl⟩
        · refine mj_iload d_Sa_ofHalf_51 rfl ?_
          refine mj_ldc d_Sa_ofHalf_53 k_Sa_23 ?_
          refine mj_iadd d_Sa_ofHalf_55 ?_
          refine mj_goto (tgt := 61) d_Sa_ofHalf_56 (by decide) ?_
          exact mj_iret rfl d_Sa_ofHalf_61 ⟨by unfold sa_half; rw [if_neg c_43, eb, if_neg c_48], rfl⟩
def sa_fa (v : UInt32) : UInt64 := if 0 ≤ Op.cmpValue (FP.fcmp v FP.fconst0) .g then FP.f2d v else FP.f2d (FP.fneg v)
def sa_float (v : UInt32) : Int32 := if 0 ≤ Op.cmpValue (FP.fcmp v FP.fconst0) .g then ne_bits 8388608 150 254 (sa_fa v) else ne_bits 8388608 150 254 (sa_fa v) ||| (-2147483648)
theorem fl_fneg {q : UInt32} (h : vf_n32 q) : vf_n32 (FP.fneg q) := (Fl.fneg_iff q).mpr h
theorem sa_fa_n {v : UInt32} (h : vf_n32 v) : vf_n64 (sa_fa v) := by unfold sa_fa; split; exact Fl.f2d_out h; exact Fl.f2d_out (fl_fneg h)
set_option maxRecDepth 100000 in
set_option maxHeartbeats 4000000 in
theorem c_Sa_ofFloat {h : mj_H} {v : UInt32} (hv : vf_n32 v) : mj_Met M_Sa_ofFloat (1, 30, none) 0 0 [.float v] h (mj_q (some (.int (sa_float v))) h) := by
  refine mj_enter (r := 3) rfl rfl (by decide) rfl ?_
  show mj_W M_Sa_ofFloat _ _ _ _ 0 [some (.float v), none, none, none] [] h
  refine mj_fload_n d_Sa_ofFloat_0 rfl ?_
  refine mj_fconst0 d_Sa_ofFloat_1 ?_
  refine mj_fcmp d_Sa_ofFloat_2 ?_
  refine mj_if_ge (tgt := 12) d_Sa_ofFloat_3 (by decide) (fun c_3 => ?_) (fun c_3 => ?_)
  · refine mj_fload_n d_Sa_ofFloat_12 rfl ?_
    refine mj_f2d d_Sa_ofFloat_13 (Fl.f2d_out hv) ?_
    refine mj_topd (fun v1 e_v1 => ?_)
    refine mj_dstore_n (L' := [some (.float v), some (.double v1), none, none]) d_Sa_ofFloat_14 (by decide) rfl rfl ?_
    have ea : sa_fa v = v1 := by unfold sa_fa; rw [if_pos c_3, e_v1]
    have na := sa_fa_n hv
    rw [ea] at na
    refine mj_dload_n d_Sa_ofFloat_15 rfl ?_
    refine mj_ldc d_Sa_ofFloat_16 k_Sa_29 ?_
    refine mj_sipush (v := 150) d_Sa_ofFloat_18 (by decide) ?_
    refine mj_sipush (v := 254) d_Sa_ofFloat_21 (by decide) ?_
    refine mj_cS (S := []) (S1 := [.int (ne_bits 8388608 150 254 v1)]) (c_Sa_nearest (one := 8388608) (bias := 150) (top := 254) (q0 := v1) na (by decide) (by decide)) d_Sa_ofFloat_24 cw_Sa_nearest ml_Sa_37 st_Sa_nearest (by decide) rfl (Nat.le_of_ble_eq_true rfl) rfl rfl ?_
    refine mj_topi (fun v2 e_v2 => ?_)
    refine mj_istore_n (L' := [some (.float v), some (.double v1), none, some (.int v2)]) d_Sa_ofFloat_27 (by decide) rfl rfl ?_
    refine mj_fload_n d_Sa_ofFloat_28 rfl ?_
    refine mj_fconst0 d_Sa_ofFloat_29 ?_
    refine mj_fcmp d_Sa_ofFloat_30 ?_
    refine mj_if_ge (tgt := 41) d_Sa_ofFloat_31 (by decide) (fun c_31 => ?_) (fun c_31 => ?_)
    · refine mj_iload_n d_Sa_ofFloat_41 rfl ?_
      exact mj_iret rfl d_Sa_ofFloat_42 ⟨by unfold sa_float; rw [if_pos c_31, ea, e_v2], rfl⟩
    · refine mj_iload_n d_Sa_ofFloat_34 rfl ?_
      refine mj_ldc d_Sa_ofFloat_35 k_Sa_41 ?_
      refine mj_ior d_Sa_ofFloat_37 ?_
      refine mj_goto (tgt := 42) d_Sa_ofFloat_38 (by decide) ?_
      exact mj_iret rfl d_Sa_ofFloat_42 ⟨by unfold sa_float; rw [if_neg c_31, ea, e_v2], rfl⟩
  · refine mj_fload_n d_Sa_ofFloat_6 rfl ?_
    refine mj_fneg d_Sa_ofFloat_7 ?_
    refine mj_f2d d_Sa_ofFloat_8 (Fl.f2d_out (fl_fneg hv)) ?_
    refine mj_goto (tgt := 14) d_Sa_ofFloat_9 (by decide) ?_
    refine mj_topd (fun v3 e_v3 => ?_)
    refine mj_dstore_n (L' := [some (.float v), some (.double v3), none, none]) d_Sa_ofFloat_14 (by decide) rfl rfl ?_
    have ea : sa_fa v = v3 := by unfold sa_fa; rw [if_neg c_3, e_v3]
    have na := sa_fa_n hv
    rw [ea] at na
    refine mj_dload_n d_Sa_ofFloat_15 rfl ?_
    refine mj_ldc d_Sa_ofFloat_16 k_Sa_29 ?_
    refine mj_sipush (v := 150) d_Sa_ofFloat_18 (by decide) ?_
    refine mj_sipush (v := 254) d_Sa_ofFloat_21 (by decide) ?_
    refine mj_cS (S := []) (S1 := [.int (ne_bits 8388608 150 254 v3)]) (c_Sa_nearest (one := 8388608) (bias := 150) (top := 254) (q0 := v3) na (by decide) (by decide)) d_Sa_ofFloat_24 cw_Sa_nearest ml_Sa_37 st_Sa_nearest (by decide) rfl (Nat.le_of_ble_eq_true rfl) rfl rfl ?_
    refine mj_topi (fun v4 e_v4 => ?_)
    refine mj_istore_n (L' := [some (.float v), some (.double v3), none, some (.int v4)]) d_Sa_ofFloat_27 (by decide) rfl rfl ?_
    refine mj_fload_n d_Sa_ofFloat_28 rfl ?_
    refine mj_fconst0 d_Sa_ofFloat_29 ?_
    refine mj_fcmp d_Sa_ofFloat_30 ?_
    refine mj_if_ge (tgt := 41) d_Sa_ofFloat_31 (by decide) (fun c_31 => ?_) (fun c_31 => ?_)
    · refine mj_iload_n d_Sa_ofFloat_41 rfl ?_
      exact mj_iret rfl d_Sa_ofFloat_42 ⟨by unfold sa_float; rw [if_pos c_31, ea, e_v4], rfl⟩
    · refine mj_iload_n d_Sa_ofFloat_34 rfl ?_
      refine mj_ldc d_Sa_ofFloat_35 k_Sa_41 ?_
      refine mj_ior d_Sa_ofFloat_37 ?_
      refine mj_goto (tgt := 42) d_Sa_ofFloat_38 (by decide) ?_
      exact mj_iret rfl d_Sa_ofFloat_42 ⟨by unfold sa_float; rw [if_neg c_31, ea, e_v4], rfl⟩
