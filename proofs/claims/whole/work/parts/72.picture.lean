def sa_of (t : Int32) (v : UInt64) : Int32 := if t = 0 then sa_half v else if t = 1 then sa_float (FP.d2f v) else sa_whole (FP.d2i v)
set_option maxRecDepth 100000 in
set_option maxHeartbeats 4000000 in
theorem c_Sa_ofValue {h : mj_H} (t : Int32) {v : UInt64} (hv : vf_n64 v) : mj_Met M_Sa_ofValue (2, 54, none) 0 0 [.int t, .double v] h (mj_q (some (.int (sa_of t v))) h) := by
  refine mj_enter (r := 0) rfl rfl (by decide) rfl ?_
  show mj_W M_Sa_ofValue _ _ _ _ 0 [some (.int t), some (.double v), none] [] h
  refine mj_iload_n d_Sa_ofValue_0 rfl ?_
  by_cases s_1_0 : t = 0
  · refine mj_lookup (off := 27) (tgt := 28) d_Sa_ofValue_1 (by decide) (by rw [s_1_0]; decide) (by decide) ?_
    refine mj_dload_n d_Sa_ofValue_28 rfl ?_
    refine mj_cS (S := []) (S1 := [.int (sa_half v)]) (c_Sa_ofHalf hv) d_Sa_ofValue_29 cw_Sa_ofHalf ml_Sa_9 st_Sa_ofHalf (by decide) rfl (Nat.le_of_ble_eq_true rfl) rfl rfl ?_
    exact mj_iret rfl d_Sa_ofValue_32 ⟨by unfold sa_of; rw [if_pos s_1_0], rfl⟩
  by_cases s_1_1 : t = 1
  · refine mj_lookup (off := 32) (tgt := 33) d_Sa_ofValue_1 (by decide) (by rw [s_1_1]; decide) (by decide) ?_
    refine mj_dload_n d_Sa_ofValue_33 rfl ?_
    refine mj_d2f d_Sa_ofValue_34 (Fl.d2f_out hv) ?_
    refine mj_cS (S := []) (S1 := [.int (sa_float (FP.d2f v))]) (c_Sa_ofFloat (Fl.d2f_out hv)) d_Sa_ofValue_35 cw_Sa_ofFloat ml_Sa_15 st_Sa_ofFloat (by decide) rfl (Nat.le_of_ble_eq_true rfl) rfl rfl ?_
    exact mj_iret rfl d_Sa_ofValue_38 ⟨by unfold sa_of; rw [if_neg s_1_0, if_pos s_1_1], rfl⟩
  refine mj_lookup (off := 38) (tgt := 39) d_Sa_ofValue_1 (by decide) (by show Op.lookupswitch.offset [(0, 27), (1, 32)] 38 (t : Int32).toInt = 38; rw [lv_osw s_1_0 (show (0 : Int32).toInt = 0 by decide), lv_osw s_1_1 (show (1 : Int32).toInt = 1 by decide)]; rfl) (by decide) ?_
  refine mj_dload_n d_Sa_ofValue_39 rfl ?_
  refine mj_d2i d_Sa_ofValue_40 ?_
  refine mj_cS (S := []) (S1 := [.int (sa_whole (FP.d2i v))]) (c_Sa_ofWhole _) d_Sa_ofValue_41 cw_Sa_ofWhole ml_Sa_19 st_Sa_ofWhole (by decide) rfl (Nat.le_of_ble_eq_true rfl) rfl rfl ?_
  exact mj_iret rfl d_Sa_ofValue_44 ⟨by unfold sa_of; rw [if_neg s_1_0, if_neg s_1_1], rfl⟩
def pi_told (p : pi_P) (c x y : Nat) : UInt64 := sa_told (p.2.2.2.2.1 c) (p.2.2.2.2.2.2 (64 * c + 8 * y + x))
set_option maxRecDepth 100000 in
set_option maxHeartbeats 4000000 in
theorem c_Pi_told {h : mj_H} {a l t s m : Nat} {p : pi_P} (P : Pi h a l t s m p) {c x y : Nat} (hc : c < 3) (hx : x < 8) (hy : y < 8) : mj_Met M_Pi_told (3, 70, none) 0 0 [.ref a, .int (nI c), .int (nI x), .int (nI y)] h (mj_q (some (.double (pi_told p c x y))) h) := by
  obtain ⟨h1, h2, h3, h4, h5, ⟨n1, n2, n3, n4, n5, n6⟩, w1, w2, w3⟩ := id P
  refine mj_enter (r := 0) rfl rfl (by decide) rfl ?_
  show mj_W M_Pi_told _ _ _ _ 0 [some (.ref a), some (.int (nI c)), some (.int (nI x)), some (.int (nI y))] [] h
  refine mj_aload_n d_Pi_told_0 rfl ?_
  refine mj_get ok_Pi (k := 4) (by decide) fl_Pi_15 d_Pi_told_1 h1 rfl ?_
  refine mj_iload_n d_Pi_told_4 rfl ?_
  refine mj_iald d_Pi_told_5 h3 (vp_in_nI hc (by decide)) ?_
  refine mj_aload_n d_Pi_told_6 rfl ?_
  refine mj_iload_n d_Pi_told_7 rfl ?_
  refine mj_iload_n d_Pi_told_8 rfl ?_
  refine mj_iload_n d_Pi_told_9 rfl ?_
  refine mj_cV (S := [.int (p.2.2.2.2.1 ((nI c) : Int32).toNatClampNeg)]) (S1 := [.int (p.2.2.2.2.2.2 (64 * c + 8 * y + x)), .int (p.2.2.2.2.1 ((nI c) : Int32).toNatClampNeg)]) (c_Pi_at P hc hx hy) d_Pi_told_10 cw_Pi_at ml_Pi_48 im_Pi_at se_Pi_at rfl h1 (by decide) rfl (Nat.le_of_ble_eq_true rfl) rfl rfl ?_
  rw [nI_clamp (by omega)]
  refine mj_cS (S := []) (S1 := [.double (pi_told p c x y)]) (c_Sa_told (p.2.2.2.2.1 c) (p.2.2.2.2.2.2 (64 * c + 8 * y + x))) d_Pi_told_13 cw_Sa_told ml_Pi_52 st_Sa_told (by decide) rfl (Nat.le_of_ble_eq_true rfl) rfl rfl ?_
  exact mj_dret rfl d_Pi_told_16 ⟨rfl, rfl⟩
def gd_1 (p : pi_P) (v : UInt64) (c x y : Nat) (g : UInt64) : UInt64 := if pi_hs p (nI c) (nI x) (nI y) then (if Op.cmpValue (FP.dcmp (sa_abs (FP.dsub (pi_told p c x y) v)) g) .l ≤ 0 then g else sa_abs (FP.dsub (pi_told p c x y) v)) else g
def gd_x (p : pi_P) (v : UInt64) (c y : Nat) : Nat → Nat → UInt64 → UInt64
  | 0, _, g => g
  | j + 1, x, g => gd_x p v c y j (x + 1) (gd_1 p v c x y g)
def gd_y (p : pi_P) (v : UInt64) (c : Nat) : Nat → Nat → UInt64 → UInt64
  | 0, _, g => g
  | j + 1, y, g => gd_y p v c j (y + 1) (gd_x p v c y p.1 0 g)
def pi_far (p : pi_P) (v : UInt64) (c : Nat) : UInt64 := gd_y p v c p.2.1 0 FP.dconst0
set_option maxRecDepth 100000 in
set_option maxHeartbeats 4000000 in
theorem lp_Pi_far_x {Q : mj_E → mj_H → Prop} {h : mj_H} {a l t s m : Nat} {p : pi_P} (P : Pi h a l t s m p) {c y kc ks : Nat} {v : UInt64} (hv : Fl.Fin64 v) (hc : c < 3) (hy : y < 8) : ∀ (j x : Nat) (g : UInt64), x + j = p.1 → mj_W M_Pi_greatestDistance Q (4, 93, none) kc ks 92 [some (.ref a), some (.int (nI c)), some (.double v), none, some (.double (gd_x p v c y j x g)), none, some (.int (nI y)), none, none, none, none, none] [] h → mj_W M_Pi_greatestDistance Q (4, 93, none) kc ks 18 [some (.ref a), some (.int (nI c)), some (.double v), none, some (.double g), none, some (.int (nI y)), some (.int (nI x)), none, none, none, none] [] h := by
  intro j
  induction j with
  | zero =>
    intro x g hx kk
    obtain ⟨h1, h2, h3, h4, h5, ⟨n1, n2, n3, n4, n5, n6⟩, w1, w2, w3⟩ := id P
    refine mj_iload d_Pi_greatestDistance_18 rfl ?_
    refine mj_aload_n d_Pi_greatestDistance_20 rfl ?_
    refine mj_get ok_Pi (k := 0) (by decide) fl_Pi_24 d_Pi_greatestDistance_21 h1 rfl ?_
    refine mj_icmp_ge (tgt := 92) d_Pi_greatestDistance_24 (by decide) (fun c_24 => ?_) (fun c_24 => ?_)
    · refine mj_fg 7 (L' := [some (.ref a), some (.int (nI c)), some (.double v), none, some (.double g), none, some (.int (nI y)), none, none, none, none, none]) rfl ?_
      exact kk
    · exact absurd (nI_le (by omega) (by omega)) c_24
  | succ j ih =>
    intro x g hx kk
    obtain ⟨h1, h2, h3, h4, h5, ⟨n1, n2, n3, n4, n5, n6⟩, w1, w2, w3⟩ := id P
    refine mj_iload d_Pi_greatestDistance_18 rfl ?_
    refine mj_aload_n d_Pi_greatestDistance_20 rfl ?_
    refine mj_get ok_Pi (k := 0) (by decide) fl_Pi_24 d_Pi_greatestDistance_21 h1 rfl ?_
    refine mj_icmp_ge (tgt := 92) d_Pi_greatestDistance_24 (by decide) (fun c_24 => ?_) (fun c_24 => ?_)
    · exact absurd c_24 (nI_ge (by omega) (by omega))
    · refine mj_aload_n d_Pi_greatestDistance_27 rfl ?_
      refine mj_iload_n d_Pi_greatestDistance_28 rfl ?_
      refine mj_iload d_Pi_greatestDistance_29 rfl ?_
      refine mj_iload d_Pi_greatestDistance_31 rfl ?_
      refine mj_cV (S := []) (S1 := [.int (if pi_hs p (nI c) (nI x) (nI y) then 1 else 0)]) (c_Pi_hasSample P (nI c) (nI x) (nI y)) d_Pi_greatestDistance_33 cw_Pi_hasSample ml_Pi_62 im_Pi_hasSample se_Pi_hasSample rfl h1 (by decide) rfl (Nat.le_of_ble_eq_true rfl) rfl rfl ?_
      by_cases hs : pi_hs p (nI c) (nI x) (nI y)
      · rw [if_pos hs]
        refine mj_if_eq (tgt := 86) d_Pi_greatestDistance_36 (by decide) (fun _q => absurd _q (by decide)) (fun _q => ?_)
        refine mj_aload_n d_Pi_greatestDistance_39 rfl ?_
        refine mj_iload_n d_Pi_greatestDistance_40 rfl ?_
        refine mj_iload d_Pi_greatestDistance_41 rfl ?_
        refine mj_iload d_Pi_greatestDistance_43 rfl ?_
        refine mj_cV (S := []) (S1 := [.double (pi_told p c x y)]) (c_Pi_told P (c := c) (x := x) (y := y) hc (by omega) (by omega)) d_Pi_greatestDistance_45 cw_Pi_told ml_Pi_66 im_Pi_told se_Pi_told rfl h1 (by decide) rfl (Nat.le_of_ble_eq_true rfl) rfl rfl ?_
        refine mj_dload_n d_Pi_greatestDistance_48 rfl ?_
        refine mj_dsub d_Pi_greatestDistance_49 (Fl.dsub_out (sa_told_n _ _) hv) ?_
        refine mj_topd (fun v1 e_v1 => ?_)
        refine mj_dstore (L' := [some (.ref a), some (.int (nI c)), some (.double v), none, some (.double g), none, some (.int (nI y)), some (.int (nI x)), some (.double v1), none, none, none]) d_Pi_greatestDistance_50 (by decide) rfl rfl ?_
        refine mj_dload d_Pi_greatestDistance_52 rfl ?_
        refine mj_dconst0 d_Pi_greatestDistance_54 ?_
        refine mj_dcmp d_Pi_greatestDistance_55 ?_
        refine mj_if_ge (tgt := 65) d_Pi_greatestDistance_56 (by decide) (fun c_56 => ?_) (fun c_56 => ?_)
        · refine mj_dload d_Pi_greatestDistance_65 rfl ?_
          refine mj_dstore (L' := [some (.ref a), some (.int (nI c)), some (.double v), none, some (.double g), none, some (.int (nI y)), some (.int (nI x)), some (.double v1), none, some (.double v1), none]) d_Pi_greatestDistance_67 (by decide) rfl rfl ?_
          have ea : sa_abs (FP.dsub (pi_told p c x y) v) = v1 := by rw [← e_v1]; unfold sa_abs; rw [if_pos c_56]
          refine mj_dload d_Pi_greatestDistance_69 rfl ?_
          refine mj_dload d_Pi_greatestDistance_71 rfl ?_
          refine mj_dcmp d_Pi_greatestDistance_73 ?_
          refine mj_if_le (tgt := 82) d_Pi_greatestDistance_74 (by decide) (fun c_74 => ?_) (fun c_74 => ?_)
          · refine mj_dload d_Pi_greatestDistance_82 rfl ?_
            refine mj_dstore (L' := [some (.ref a), some (.int (nI c)), some (.double v), none, some (.double g), none, some (.int (nI y)), some (.int (nI x)), some (.double v1), none, some (.double v1), none]) d_Pi_greatestDistance_84 (by decide) rfl rfl ?_
            obtain ⟨v2, e_v2⟩ : ∃ q_ : Int32, q_ = (nI x) + 1 := ⟨_, rfl⟩
            refine mj_iinc (x := (nI x)) (v := v2) (L' := [some (.ref a), some (.int (nI c)), some (.double v), none, some (.double g), none, some (.int (nI y)), some (.int v2), some (.double v1), none, some (.double v1), none]) d_Pi_greatestDistance_86 rfl (by rw [e_v2]; rfl) (by decide) rfl rfl ?_
            refine mj_goto (tgt := 18) d_Pi_greatestDistance_89 (by decide) ?_
            rw [e_v2, nI_1]
            rw [show gd_x p v c y (j + 1) x g = gd_x p v c y j (x + 1) g by rw [gd_x]; unfold gd_1; rw [if_pos hs, ea, if_pos c_74]] at kk
            refine mj_fg 8 (L' := [some (.ref a), some (.int (nI c)), some (.double v), none, some (.double g), none, some (.int (nI y)), some (.int (nI (x + 1))), none, none, some (.double v1), none]) rfl ?_
            refine mj_fg 10 (L' := [some (.ref a), some (.int (nI c)), some (.double v), none, some (.double g), none, some (.int (nI y)), some (.int (nI (x + 1))), none, none, none, none]) rfl ?_
            exact ih (x + 1) g (by omega) kk
          · refine mj_dload d_Pi_greatestDistance_77 rfl ?_
            refine mj_goto (tgt := 84) d_Pi_greatestDistance_79 (by decide) ?_
            refine mj_dstore (L' := [some (.ref a), some (.int (nI c)), some (.double v), none, some (.double v1), none, some (.int (nI y)), some (.int (nI x)), some (.double v1), none, some (.double v1), none]) d_Pi_greatestDistance_84 (by decide) rfl rfl ?_
            obtain ⟨v3, e_v3⟩ : ∃ q_ : Int32, q_ = (nI x) + 1 := ⟨_, rfl⟩
            refine mj_iinc (x := (nI x)) (v := v3) (L' := [some (.ref a), some (.int (nI c)), some (.double v), none, some (.double v1), none, some (.int (nI y)), some (.int v3), some (.double v1), none, some (.double v1), none]) d_Pi_greatestDistance_86 rfl (by rw [e_v3]; rfl) (by decide) rfl rfl ?_
            refine mj_goto (tgt := 18) d_Pi_greatestDistance_89 (by decide) ?_
            rw [e_v3, nI_1]
            rw [show gd_x p v c y (j + 1) x g = gd_x p v c y j (x + 1) v1 by rw [gd_x]; unfold gd_1; rw [if_pos hs, ea, if_neg c_74]] at kk
            refine mj_fg 8 (L' := [some (.ref a), some (.int (nI c)), some (.double v), none, some (.double v1), none, some (.int (nI y)), some (.int (nI (x + 1))), none, none, some (.double v1), none]) rfl ?_
            refine mj_fg 10 (L' := [some (.ref a), some (.int (nI c)), some (.double v), none, some (.double v1), none, some (.int (nI y)), some (.int (nI (x + 1))), none, none, none, none]) rfl ?_
            exact ih (x + 1) v1 (by omega) kk
        · refine mj_dload d_Pi_greatestDistance_59 rfl ?_
          refine mj_dneg d_Pi_greatestDistance_61 ?_
          refine mj_goto (tgt := 67) d_Pi_greatestDistance_62 (by decide) ?_
          refine mj_topd (fun v4 e_v4 => ?_)
          refine mj_dstore (L' := [some (.ref a), some (.int (nI c)), some (.double v), none, some (.double g), none, some (.int (nI y)), some (.int (nI x)), some (.double v1), none, some (.double v4), none]) d_Pi_greatestDistance_67 (by decide) rfl rfl ?_
          have ea : sa_abs (FP.dsub (pi_told p c x y) v) = v4 := by rw [← e_v1]; unfold sa_abs; rw [if_neg c_56, e_v4]
          refine mj_dload d_Pi_greatestDistance_69 rfl ?_
          refine mj_dload d_Pi_greatestDistance_71 rfl ?_
          refine mj_dcmp d_Pi_greatestDistance_73 ?_
          refine mj_if_le (tgt := 82) d_Pi_greatestDistance_74 (by decide) (fun c_74 => ?_) (fun c_74 => ?_)
          · refine mj_dload d_Pi_greatestDistance_82 rfl ?_
            refine mj_dstore (L' := [some (.ref a), some (.int (nI c)), some (.double v), none, some (.double g), none, some (.int (nI y)), some (.int (nI x)), some (.double v1), none, some (.double v4), none]) d_Pi_greatestDistance_84 (by decide) rfl rfl ?_
            obtain ⟨v5, e_v5⟩ : ∃ q_ : Int32, q_ = (nI x) + 1 := ⟨_, rfl⟩
            refine mj_iinc (x := (nI x)) (v := v5) (L' := [some (.ref a), some (.int (nI c)), some (.double v), none, some (.double g), none, some (.int (nI y)), some (.int v5), some (.double v1), none, some (.double v4), none]) d_Pi_greatestDistance_86 rfl (by rw [e_v5]; rfl) (by decide) rfl rfl ?_
            refine mj_goto (tgt := 18) d_Pi_greatestDistance_89 (by decide) ?_
            rw [e_v5, nI_1]
            rw [show gd_x p v c y (j + 1) x g = gd_x p v c y j (x + 1) g by rw [gd_x]; unfold gd_1; rw [if_pos hs, ea, if_pos c_74]] at kk
            refine mj_fg 8 (L' := [some (.ref a), some (.int (nI c)), some (.double v), none, some (.double g), none, some (.int (nI y)), some (.int (nI (x + 1))), none, none, some (.double v4), none]) rfl ?_
            refine mj_fg 10 (L' := [some (.ref a), some (.int (nI c)), some (.double v), none, some (.double g), none, some (.int (nI y)), some (.int (nI (x + 1))), none, none, none, none]) rfl ?_
            exact ih (x + 1) g (by omega) kk
          · refine mj_dload d_Pi_greatestDistance_77 rfl ?_
            refine mj_goto (tgt := 84) d_Pi_greatestDistance_79 (by decide) ?_
            refine mj_dstore (L' := [some (.ref a), some (.int (nI c)), some (.double v), none, some (.double v4), none, some (.int (nI y)), some (.int (nI x)), some (.double v1), none, some (.double v4), none]) d_Pi_greatestDistance_84 (by decide) rfl rfl ?_
            obtain ⟨v6, e_v6⟩ : ∃ q_ : Int32, q_ = (nI x) + 1 := ⟨_, rfl⟩
            refine mj_iinc (x := (nI x)) (v := v6) (L' := [some (.ref a), some (.int (nI c)), some (.double v), none, some (.double v4), none, some (.int (nI y)), some (.int v6), some (.double v1), none, some (.double v4), none]) d_Pi_greatestDistance_86 rfl (by rw [e_v6]; rfl) (by decide) rfl rfl ?_
            refine mj_goto (tgt := 18) d_Pi_greatestDistance_89 (by decide) ?_
            rw [e_v6, nI_1]
            rw [show gd_x p v c y (j + 1) x g = gd_x p v c y j (x + 1) v4 by rw [gd_x]; unfold gd_1; rw [if_pos hs, ea, if_neg c_74]] at kk
            refine mj_fg 8 (L' := [some (.ref a), some (.int (nI c)), some (.double v), none, some (.double v4), none, some (.int (nI y)), some (.int (nI (x + 1))), none, none, some (.double v4), none]) rfl ?_
            refine mj_fg 10 (L' := [some (.ref a), some (.int (nI c)), some (.double v), none, some (.double v4), none, some (.int (nI y)), some (.int (nI (x + 1))), none, none, none, none]) rfl ?_
            exact ih (x + 1) v4 (by omega) kk
      · rw [if_neg hs]
        refine mj_if_eq (tgt := 86) d_Pi_greatestDistance_36 (by decide) (fun _q => ?_) (fun _q => absurd rfl _q)
        obtain ⟨v7, e_v7⟩ : ∃ q_ : Int32, q_ = (nI x) + 1 := ⟨_, rfl⟩
        refine mj_iinc (x := (nI x)) (v := v7) (L' := [some (.ref a), some (.int (nI c)), some (.double v), none, some (.double g), none, some (.int (nI y)), some (.int v7), none, none, none, none]) d_Pi_greatestDistance_86 rfl (by rw [e_v7]; rfl) (by decide) rfl rfl ?_
        refine mj_goto (tgt := 18) d_Pi_greatestDistance_89 (by decide) ?_
        rw [e_v7, nI_1]
        rw [show gd_x p v c y (j + 1) x g = gd_x p v c y j (x + 1) g by rw [gd_x]; unfold gd_1; rw [if_neg hs]] at kk
        exact ih (x + 1) g (by omega) kk
set_option maxRecDepth 100000 in
set_option maxHeartbeats 4000000 in
theorem lp_Pi_far_y {Q : mj_E → mj_H → Prop} {h : mj_H} {a l t s m : Nat} {p : pi_P} (P : Pi h a l t s m p) {c kc ks : Nat} {v : UInt64} (hv : Fl.Fin64 v) (hc : c < 3) : ∀ (j y : Nat) (g : UInt64), y + j = p.2.1 → mj_W M_Pi_greatestDistance Q (4, 93, none) kc ks 98 [some (.ref a), some (.int (nI c)), some (.double v), none, some (.double (gd_y p v c j y g)), none, none, none, none, none, none, none] [] h → mj_W M_Pi_greatestDistance Q (4, 93, none) kc ks 6 [some (.ref a), some (.int (nI c)), some (.double v), none, some (.double g), none, some (.int (nI y)), none, none, none, none, none] [] h := by
  intro j
  induction j with
  | zero =>
    intro y g hy kk
    obtain ⟨h1, h2, h3, h4, h5, ⟨n1, n2, n3, n4, n5, n6⟩, w1, w2, w3⟩ := id P
    refine mj_iload d_Pi_greatestDistance_6 rfl ?_
    refine mj_aload_n d_Pi_greatestDistance_8 rfl ?_
    refine mj_get ok_Pi (k := 1) (by decide) fl_Pi_28 d_Pi_greatestDistance_9 h1 rfl ?_
    refine mj_icmp_ge (tgt := 98) d_Pi_greatestDistance_12 (by decide) (fun c_12 => ?_) (fun c_12 => ?_)
    · refine mj_fg 6 (L' := [some (.ref a), some (.int (nI c)), some (.double v), none, some (.double g), none, none, none, none, none, none, none]) rfl ?_
      exact kk
    · exact absurd (nI_le (by omega) (by omega)) c_12
  | succ j ih =>
    intro y g hy kk
    obtain ⟨h1, h2, h3, h4, h5, ⟨n1, n2, n3, n4, n5, n6⟩, w1, w2, w3⟩ := id P
    refine mj_iload d_Pi_greatestDistance_6 rfl ?_
    refine mj_aload_n d_Pi_greatestDistance_8 rfl ?_
    refine mj_get ok_Pi (k := 1) (by decide) fl_Pi_28 d_Pi_greatestDistance_9 h1 rfl ?_
    refine mj_icmp_ge (tgt := 98) d_Pi_greatestDistance_12 (by decide) (fun c_12 => ?_) (fun c_12 => ?_)
    · exact absurd c_12 (nI_ge (by omega) (by omega))
    · refine mj_iconst (v := 0) d_Pi_greatestDistance_15 (by decide) ?_
      refine mj_istore (L' := [some (.ref a), some (.int (nI c)), some (.double v), none, some (.double g), none, some (.int (nI y)), some (.int 0), none, none, none, none]) d_Pi_greatestDistance_16 (by decide) rfl rfl ?_
      refine lp_Pi_far_x P hv hc (by omega) p.1 0 g (by omega) ?_
      obtain ⟨v1, e_v1⟩ : ∃ q_ : Int32, q_ = (nI y) + 1 := ⟨_, rfl⟩
      refine mj_iinc (x := (nI y)) (v := v1) (L' := [some (.ref a), some (.int (nI c)), some (.double v), none, some (.double (gd_x p v c y p.1 0 g)), none, some (.int v1), none, none, none, none, none]) d_Pi_greatestDistance_92 rfl (by rw [e_v1]; rfl) (by decide) rfl rfl ?_
      refine mj_goto (tgt := 6) d_Pi_greatestDistance_95 (by decide) ?_
      rw [e_v1, nI_1]
      exact ih (y + 1) _ (by omega) kk
set_option maxRecDepth 100000 in
set_option maxHeartbeats 4000000 in
theorem c_Pi_greatestDistance {h : mj_H} {a l t s m : Nat} {p : pi_P} (P : Pi h a l t s m p) {c : Nat} {v : UInt64} (hv : Fl.Fin64 v) (hc : c < 3) : mj_Met M_Pi_greatestDistance (4, 93, none) 0 0 [.ref a, .int (nI c), .double v] h (mj_q (some (.double (pi_far p v c))) h) := by
  refine mj_enter (r := 8) rfl rfl (by decide) rfl ?_
  show mj_W M_Pi_greatestDistance _ _ _ _ 0 [some (.ref a), some (.int (nI c)), some (.double v), none, none, none, none, none, none, none, none, none] [] h
  refine mj_dconst0 d_Pi_greatestDistance_0 ?_
  refine mj_topd (fun v1 e_v1 => ?_)
  refine mj_dstore (L' := [some (.ref a), some (.int (nI c)), some (.double v), none, some (.double v1), none, none, none, none, none, none, none]) d_Pi_greatestDistance_1 (by decide) rfl rfl ?_
  refine mj_iconst (v := 0) d_Pi_greatestDistance_3 (by decide) ?_
  refine mj_istore (L' := [some (.ref a), some (.int (nI c)), some (.double v), none, some (.double v1), none, some (.int 0), none, none, none, none, none]) d_Pi_greatestDistance_4 (by decide) rfl rfl ?_
  refine lp_Pi_far_y P hv hc p.2.1 0 v1 (by omega) ?_
  refine mj_dload d_Pi_greatestDistance_98 rfl ?_
  exact mj_dret rfl d_Pi_greatestDistance_100 ⟨by rw [e_v1]; rfl, rfl⟩
