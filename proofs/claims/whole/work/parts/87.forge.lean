set_option maxRecDepth 100000 in
set_option maxHeartbeats 4000000 in
theorem c_RF_spread {h : mj_H} {b : by_B} {f : Nat → Int32} {r s q : by_B} {pa pb : Nat} {p p2 : pi_P} {v : Int32} (O : Ob h b f r s q pa pb p p2 v) (c : Int32) {w : UInt64} (hw : Fl.Fin64 w) : mj_Met M_RF_spread (6, 124, none) 1 6 [.ref 0, .int c, .double w] h (@ite _ (rf_val w) (rf_valD w) (if ¬ c < 0 ∧ c < nI p.2.2.1 then mj_q (some (.double (pi_far p w c.toNatClampNeg))) h else mj_t 11 h) (mj_t 9 h)) := by
  obtain ⟨o0, B, C, P2, ow, -, ok2, okb, opq⟩ := id O
  obtain ⟨b1, b2, b3, b4⟩ := id B
  obtain ⟨h1, h2, h3, h4, h5, -, w1, w2, w3⟩ := id C.1.1.2.2.1
  refine mj_enter (r := 0) rfl rfl (by decide) rfl ?_
  show mj_W M_RF_spread _ _ _ _ 0 [some (.ref 0), some (.int c), some (.double w), none] [] h
  refine mj_dload_n d_RF_spread_0 rfl ?_
  refine mj_cS (S := []) (S1 := [.int (@ite Int32 (rf_val w) (rf_valD w) 1 0)]) (c_RF_isValue w) d_RF_spread_1 cw_RF_isValue ml_RF_74 st_RF_isValue (by decide) rfl (Nat.le_of_ble_eq_true rfl) rfl rfl ?_
  by_cases hs : rf_val w
  · rw [show (@ite Int32 (rf_val w) (rf_valD w) 1 0) = 1 from @if_pos _ (rf_valD w) hs _ _ _, @if_pos _ (rf_valD w) hs _ _ _]
    refine mj_if_ne (tgt := 15) d_RF_spread_4 (by decide) (fun _q => ?_) (fun _q => absurd _q (by decide))
    refine mj_iload_n d_RF_spread_15 rfl ?_
    refine mj_if_lt (tgt := 30) d_RF_spread_16 (by decide) (fun c_16 => ?_) (fun c_16 => ?_)
    · refine mj_throw0 (kc := 0) (ks := 0) (names := ["java/lang/RuntimeException", "java/lang/Exception"]) (ci := 11) rfl rfl (by decide +kernel) en_fit cl_RF_82 in_IO at_IO gw_IO d_RF_spread_30 d_RF_spread_33 d_RF_spread_34 d_RF_spread_37 (by decide) ?_
      rw [if_neg (fun g => g.1 c_16)]
      exact ⟨rfl, rfl⟩
    · refine mj_iload_n d_RF_spread_19 rfl ?_
      refine mj_aload_n d_RF_spread_20 rfl ?_
      refine mj_get ok_RF (k := 4) (by decide) fl_RF_42 d_RF_spread_21 o0 rfl ?_
      refine mj_get ok_Pi (k := 2) (by decide) fl_RF_68 d_RF_spread_24 h1 rfl ?_
      refine mj_icmp_lt (tgt := 38) d_RF_spread_27 (by decide) (fun c_27 => ?_) (fun c_27 => ?_)
      · rw [if_pos ⟨c_16, c_27⟩]
        obtain ⟨k, hk, ek⟩ := nI_of c_16
        subst ek
        have hk3 : k < p.2.2.1 := (nI_ltI hk (by omega)).mp c_27
        rw [nI_clamp hk]
        refine mj_aload_n d_RF_spread_38 rfl ?_
        refine mj_get ok_RF (k := 4) (by decide) fl_RF_42 d_RF_spread_39 o0 rfl ?_
        refine mj_iload_n d_RF_spread_42 rfl ?_
        refine mj_dload_n d_RF_spread_43 rfl ?_
        refine mj_cV (S := []) (S1 := [.double (pi_far p w k)]) (c_Pi_greatestDistance C.1.1.2.2.1 (c := k) hw (by omega)) d_RF_spread_44 cw_Pi_greatestDistance ml_RF_150 im_Pi_greatestDistance se_Pi_greatestDistance rfl h1 (by decide) rfl (Nat.le_of_ble_eq_true rfl) rfl rfl ?_
        exact mj_dret rfl d_RF_spread_47 ⟨rfl, rfl⟩
      · refine mj_throw0 (kc := 0) (ks := 0) (names := ["java/lang/RuntimeException", "java/lang/Exception"]) (ci := 11) rfl rfl (by decide +kernel) en_fit cl_RF_82 in_IO at_IO gw_IO d_RF_spread_30 d_RF_spread_33 d_RF_spread_34 d_RF_spread_37 (by decide) ?_
        rw [if_neg (fun g => c_27 g.2)]
        exact ⟨rfl, rfl⟩
  · rw [show (@ite Int32 (rf_val w) (rf_valD w) 1 0) = 0 from @if_neg _ (rf_valD w) hs _ _ _, @if_neg _ (rf_valD w) hs _ _ _]
    refine mj_if_ne (tgt := 15) d_RF_spread_4 (by decide) (fun _q => absurd rfl _q) (fun _q => ?_)
    refine mj_throw0 (kc := 0) (ks := 0) (names := ["java/lang/RuntimeException", "java/lang/Exception"]) (ci := 9) rfl rfl (by decide +kernel) en_fit cl_RF_61 in_IA at_IA gw_IA d_RF_spread_7 d_RF_spread_10 d_RF_spread_11 d_RF_spread_14 (by decide) ?_
    exact ⟨rfl, rfl⟩
set_option maxRecDepth 100000 in
set_option maxHeartbeats 4000000 in
theorem c_RF_set {h : mj_H} {b : by_B} {f : Nat → Int32} {r s q : by_B} {pa pb : Nat} {p p2 : pi_P} {v : Int32} (O : Ob h b f r s q pa pb p p2 v) (c x y : Int32) {w : UInt64} (hw : Fl.Fin64 w) : mj_Met M_RF_set (6, 100, none) 1 6 [.ref 0, .int c, .int x, .int y, .double w] h (@ite _ (rf_val w) (rf_valD w) (if pi_hs p c x y then mj_q (some (.double (pi_told (pi_put p c.toNatClampNeg x.toNatClampNeg y.toNatClampNeg (sa_of (p.2.2.2.2.1 c.toNatClampNeg) w)) c.toNatClampNeg x.toNatClampNeg y.toNatClampNeg))) (ob_up h pa (pi_put p c.toNatClampNeg x.toNatClampNeg y.toNatClampNeg (sa_of (p.2.2.2.2.1 c.toNatClampNeg) w))) else mj_t 11 h) (mj_t 9 h)) := by
  obtain ⟨o0, B, C, P2, ow, -, ok2, okb, opq⟩ := id O
  obtain ⟨b1, b2, b3, b4⟩ := id B
  obtain ⟨h1, h2, h3, h4, h5, -, w1, w2, w3⟩ := id C.1.1.2.2.1
  refine mj_enter (r := 0) rfl rfl (by decide) rfl ?_
  show mj_W M_RF_set _ _ _ _ 0 [some (.ref 0), some (.int c), some (.int x), some (.int y), some (.double w), none] [] h
  refine mj_dload d_RF_set_0 rfl ?_
  refine mj_cS (S := []) (S1 := [.int (@ite Int32 (rf_val w) (rf_valD w) 1 0)]) (c_RF_isValue w) d_RF_set_2 cw_RF_isValue ml_RF_74 st_RF_isValue (by decide) rfl (Nat.le_of_ble_eq_true rfl) rfl rfl ?_
  by_cases hs : rf_val w
  · rw [show (@ite Int32 (rf_val w) (rf_valD w) 1 0) = 1 from @if_pos _ (rf_valD w) hs _ _ _, @if_pos _ (rf_valD w) hs _ _ _]
    refine mj_if_ne (tgt := 16) d_RF_set_5 (by decide) (fun _q => ?_) (fun _q => absurd _q (by decide))
    refine mj_aload_n d_RF_set_16 rfl ?_
    refine mj_get ok_RF (k := 4) (by decide) fl_RF_42 d_RF_set_17 o0 rfl ?_
    refine mj_iload_n d_RF_set_20 rfl ?_
    refine mj_iload_n d_RF_set_21 rfl ?_
    refine mj_iload_n d_RF_set_22 rfl ?_
    refine mj_cV (S := []) (S1 := [.int (if pi_hs p c x y then 1 else 0)]) (c_Pi_hasSample C.1.1.2.2.1 c x y) d_RF_set_23 cw_Pi_hasSample ml_RF_78 im_Pi_hasSample se_Pi_hasSample rfl h1 (by decide) rfl (Nat.le_of_ble_eq_true rfl) rfl rfl ?_
    by_cases hh : pi_hs p c x y
    · rw [show (if pi_hs p c x y then (1 : Int32) else 0) = 1 from if_pos hh, if_pos hh]
      obtain ⟨C1, X1, Y1, ⟨eC, eX, eY⟩, m1, m2, m3⟩ := pi_hs_n hh
      subst eC eX eY
      rw [nI_clamp (by omega), nI_clamp (by omega), nI_clamp (by omega)]
      refine mj_if_ne (tgt := 37) d_RF_set_26 (by decide) (fun _q => ?_) (fun _q => absurd _q (by decide))
      refine mj_aload_n d_RF_set_37 rfl ?_
      refine mj_get ok_RF (k := 4) (by decide) fl_RF_42 d_RF_set_38 o0 rfl ?_
      refine mj_iload_n d_RF_set_41 rfl ?_
      refine mj_iload_n d_RF_set_42 rfl ?_
      refine mj_iload_n d_RF_set_43 rfl ?_
      refine mj_aload_n d_RF_set_44 rfl ?_
      refine mj_get ok_RF (k := 4) (by decide) fl_RF_42 d_RF_set_45 o0 rfl ?_
      refine mj_get ok_Pi (k := 4) (by decide) fl_RF_85 d_RF_set_48 h1 rfl ?_
      refine mj_iload_n d_RF_set_51 rfl ?_
      refine mj_iald d_RF_set_52 h3 (vp_in_nI (by omega) (by decide)) ?_
      refine mj_dload d_RF_set_53 rfl ?_
      rw [nI_clamp (by omega)]
      refine mj_cS (S := [.int (nI Y1), .int (nI X1), .int (nI C1), .ref pa]) (S1 := [.int (sa_of (p.2.2.2.2.1 C1) w), .int (nI Y1), .int (nI X1), .int (nI C1), .ref pa]) (c_Sa_ofValue (p.2.2.2.2.1 C1) (fl_fin hw)) d_RF_set_55 cw_Sa_ofValue ml_RF_89 st_Sa_ofValue (by decide) rfl (Nat.le_of_ble_eq_true rfl) rfl rfl ?_
      refine mj_cV (S := []) (S1 := []) (c_Pi_put C.1.1.2.2.1 (c := C1) (x := X1) (y := Y1) (by omega) (by omega) (by omega) _) d_RF_set_58 cw_Pi_put ml_RF_95 im_Pi_put se_Pi_put rfl h1 (by decide) rfl (Nat.le_of_ble_eq_true rfl) rfl rfl ?_
      have P1 := C.1.1.2.2.1.up (p' := (pi_put p C1 X1 Y1 (sa_of (p.2.2.2.2.1 C1) w))) ⟨w1, w2, w3⟩
      have p1 := P1.1
      have z0 := C.1.1.2.2.2.1
      have x0 : (ob_up h pa (pi_put p C1 X1 Y1 (sa_of (p.2.2.2.2.1 C1) w)))[0]? = some _ := (pi_fr17 z0 (by decide)).trans o0
      refine mj_aload_n d_RF_set_61 rfl ?_
      refine mj_get ok_RF (k := 4) (by decide) fl_RF_42 d_RF_set_62 x0 rfl ?_
      refine mj_iload_n d_RF_set_65 rfl ?_
      refine mj_iload_n d_RF_set_66 rfl ?_
      refine mj_iload_n d_RF_set_67 rfl ?_
      refine mj_cV (S := []) (S1 := [.double (pi_told (pi_put p C1 X1 Y1 (sa_of (p.2.2.2.2.1 C1) w)) C1 X1 Y1)]) (c_Pi_told P1 (c := C1) (x := X1) (y := Y1) (by omega) (by omega) (by omega)) d_RF_set_68 cw_Pi_told ml_RF_99 im_Pi_told se_Pi_told rfl p1 (by decide) rfl (Nat.le_of_ble_eq_true rfl) rfl rfl ?_
      exact mj_dret rfl d_RF_set_71 ⟨rfl, rfl⟩
    · rw [show (if pi_hs p c x y then (1 : Int32) else 0) = 0 from if_neg hh, if_neg hh]
      refine mj_if_ne (tgt := 37) d_RF_set_26 (by decide) (fun _q => absurd rfl _q) (fun _q => ?_)
      refine mj_throw0 (kc := 0) (ks := 0) (names := ["java/lang/RuntimeException", "java/lang/Exception"]) (ci := 11) rfl rfl (by decide +kernel) en_fit cl_RF_82 in_IO at_IO gw_IO d_RF_set_29 d_RF_set_32 d_RF_set_33 d_RF_set_36 (by decide) ?_
      exact ⟨rfl, rfl⟩
  · rw [show (@ite Int32 (rf_val w) (rf_valD w) 1 0) = 0 from @if_neg _ (rf_valD w) hs _ _ _, @if_neg _ (rf_valD w) hs _ _ _]
    refine mj_if_ne (tgt := 16) d_RF_set_5 (by decide) (fun _q => absurd rfl _q) (fun _q => ?_)
    refine mj_throw0 (kc := 0) (ks := 0) (names := ["java/lang/RuntimeException", "java/lang/Exception"]) (ci := 9) rfl rfl (by decide +kernel) en_fit cl_RF_61 in_IA at_IA gw_IA d_RF_set_8 d_RF_set_11 d_RF_set_12 d_RF_set_15 (by decide) ?_
    exact ⟨rfl, rfl⟩
