theorem i_nn {x : Int32} (h : 0 ≤ x.toInt) : ¬ x < 0 := fun q => by
  have h1 := Int32.lt_iff_toInt_lt.mp q
  have e0 : (0 : Int32).toInt = 0 := by decide
  omega
theorem pi_hs_n {p : pi_P} {c x y : Int32} (h : pi_hs p c x y) : ∃ C X Y : Nat, (c = nI C ∧ x = nI X ∧ y = nI Y) ∧ C < p.2.2.1 ∧ X < p.1 ∧ Y < p.2.1 := by
  obtain ⟨h1, h2, h3, h4, h5, h6, -⟩ := h
  obtain ⟨C, hC, eC⟩ := nI_of (i_nn h1)
  obtain ⟨X, hX, eX⟩ := nI_of (i_nn h3)
  obtain ⟨Y, hY, eY⟩ := nI_of (i_nn h5)
  rw [eC, nI_toInt hC] at h2
  rw [eX, nI_toInt hX] at h4
  rw [eY, nI_toInt hY] at h6
  exact ⟨C, X, Y, ⟨eC, eX, eY⟩, by omega, by omega, by omega⟩
set_option maxRecDepth 100000 in
set_option maxHeartbeats 4000000 in
theorem c_RF_get {h : mj_H} {b : by_B} {f : Nat → Int32} {r s q : by_B} {pa pb : Nat} {p p2 : pi_P} {v : Int32} (O : Ob h b f r s q pa pb p p2 v) (c x y : Int32) : mj_Met M_RF_get (6, 100, none) 1 6 [.ref 0, .int c, .int x, .int y] h (if pi_hs p c x y then mj_q (some (.double (pi_told p c.toNatClampNeg x.toNatClampNeg y.toNatClampNeg))) h else mj_t 11 h) := by
  obtain ⟨o0, B, C, P2, ow, -, ok2, okb, opq⟩ := id O
  obtain ⟨b1, b2, b3, b4⟩ := id B
  obtain ⟨h1, h2, h3, h4, h5, -, w1, w2, w3⟩ := id C.1.1.2.2.1
  refine mj_enter (r := 0) rfl rfl (by decide) rfl ?_
  show mj_W M_RF_get _ _ _ _ 0 [some (.ref 0), some (.int c), some (.int x), some (.int y)] [] h
  refine mj_aload_n d_RF_get_0 rfl ?_
  refine mj_get ok_RF (k := 4) (by decide) fl_RF_42 d_RF_get_1 o0 rfl ?_
  refine mj_iload_n d_RF_get_4 rfl ?_
  refine mj_iload_n d_RF_get_5 rfl ?_
  refine mj_iload_n d_RF_get_6 rfl ?_
  refine mj_cV (S := []) (S1 := [.int (if pi_hs p c x y then 1 else 0)]) (c_Pi_hasSample C.1.1.2.2.1 c x y) d_RF_get_7 cw_Pi_hasSample ml_RF_78 im_Pi_hasSample se_Pi_hasSample rfl h1 (by decide) rfl (Nat.le_of_ble_eq_true rfl) rfl rfl ?_
  by_cases hs : pi_hs p c x y
  · rw [show (if pi_hs p c x y then (1 : Int32) else 0) = 1 from if_pos hs, if_pos hs]
    obtain ⟨C1, X1, Y1, ⟨eC, eX, eY⟩, m1, m2, m3⟩ := pi_hs_n hs
    subst eC eX eY
    rw [nI_clamp (by omega), nI_clamp (by omega), nI_clamp (by omega)]
    refine mj_if_ne (tgt := 21) d_RF_get_10 (by decide) (fun _q => ?_) (fun _q => absurd _q (by decide))
    refine mj_aload_n d_RF_get_21 rfl ?_
    refine mj_get ok_RF (k := 4) (by decide) fl_RF_42 d_RF_get_22 o0 rfl ?_
    refine mj_iload_n d_RF_get_25 rfl ?_
    refine mj_iload_n d_RF_get_26 rfl ?_
    refine mj_iload_n d_RF_get_27 rfl ?_
    refine mj_cV (S := []) (S1 := [.double (pi_told p C1 X1 Y1)]) (c_Pi_told C.1.1.2.2.1 (c := C1) (x := X1) (y := Y1) (by omega) (by omega) (by omega)) d_RF_get_28 cw_Pi_told ml_RF_99 im_Pi_told se_Pi_told rfl h1 (by decide) rfl (Nat.le_of_ble_eq_true rfl) rfl rfl ?_
    exact mj_dret rfl d_RF_get_31 ⟨rfl, rfl⟩
  · rw [show (if pi_hs p c x y then (1 : Int32) else 0) = 0 from if_neg hs, if_neg hs]
    refine mj_if_ne (tgt := 21) d_RF_get_10 (by decide) (fun _q => absurd rfl _q) (fun _q => ?_)
    refine mj_throw0 (kc := 0) (ks := 0) (names := ["java/lang/RuntimeException", "java/lang/Exception"]) (ci := 11) rfl rfl (by decide +kernel) en_fit cl_RF_82 in_IO at_IO gw_IO d_RF_get_13 d_RF_get_16 d_RF_get_17 d_RF_get_20 (by decide) ?_
    exact ⟨rfl, rfl⟩
set_option maxRecDepth 100000 in
set_option maxHeartbeats 4000000 in
theorem c_RF_bits {h : mj_H} {b : by_B} {f : Nat → Int32} {r s q : by_B} {pa pb : Nat} {p p2 : pi_P} {v : Int32} (O : Ob h b f r s q pa pb p p2 v) (c x y : Int32) : mj_Met M_RF_bits (6, 100, none) 1 6 [.ref 0, .int c, .int x, .int y] h (if pi_hs p c x y then mj_q (some (.int (p.2.2.2.2.2.2 (64 * c.toNatClampNeg + 8 * y.toNatClampNeg + x.toNatClampNeg)))) h else mj_t 11 h) := by
  obtain ⟨o0, B, C, P2, ow, -, ok2, okb, opq⟩ := id O
  obtain ⟨b1, b2, b3, b4⟩ := id B
  obtain ⟨h1, h2, h3, h4, h5, -, w1, w2, w3⟩ := id C.1.1.2.2.1
  refine mj_enter (r := 0) rfl rfl (by decide) rfl ?_
  show mj_W M_RF_bits _ _ _ _ 0 [some (.ref 0), some (.int c), some (.int x), some (.int y)] [] h
  refine mj_aload_n d_RF_bits_0 rfl ?_
  refine mj_get ok_RF (k := 4) (by decide) fl_RF_42 d_RF_bits_1 o0 rfl ?_
  refine mj_iload_n d_RF_bits_4 rfl ?_
  refine mj_iload_n d_RF_bits_5 rfl ?_
  refine mj_iload_n d_RF_bits_6 rfl ?_
  refine mj_cV (S := []) (S1 := [.int (if pi_hs p c x y then 1 else 0)]) (c_Pi_hasSample C.1.1.2.2.1 c x y) d_RF_bits_7 cw_Pi_hasSample ml_RF_78 im_Pi_hasSample se_Pi_hasSample rfl h1 (by decide) rfl (Nat.le_of_ble_eq_true rfl) rfl rfl ?_
  by_cases hs : pi_hs p c x y
  · rw [show (if pi_hs p c x y then (1 : Int32) else 0) = 1 from if_pos hs, if_pos hs]
    obtain ⟨C1, X1, Y1, ⟨eC, eX, eY⟩, m1, m2, m3⟩ := pi_hs_n hs
    subst eC eX eY
    rw [nI_clamp (by omega), nI_clamp (by omega), nI_clamp (by omega)]
    refine mj_if_ne (tgt := 21) d_RF_bits_10 (by decide) (fun _q => ?_) (fun _q => absurd _q (by decide))
    refine mj_aload_n d_RF_bits_21 rfl ?_
    refine mj_get ok_RF (k := 4) (by decide) fl_RF_42 d_RF_bits_22 o0 rfl ?_
    refine mj_iload_n d_RF_bits_25 rfl ?_
    refine mj_iload_n d_RF_bits_26 rfl ?_
    refine mj_iload_n d_RF_bits_27 rfl ?_
    refine mj_cV (S := []) (S1 := [.int (p.2.2.2.2.2.2 (64 * C1 + 8 * Y1 + X1))]) (c_Pi_at C.1.1.2.2.1 (c := C1) (x := X1) (y := Y1) (by omega) (by omega) (by omega)) d_RF_bits_28 cw_Pi_at ml_RF_103 im_Pi_at se_Pi_at rfl h1 (by decide) rfl (Nat.le_of_ble_eq_true rfl) rfl rfl ?_
    exact mj_iret rfl d_RF_bits_31 ⟨rfl, rfl⟩
  · rw [show (if pi_hs p c x y then (1 : Int32) else 0) = 0 from if_neg hs, if_neg hs]
    refine mj_if_ne (tgt := 21) d_RF_bits_10 (by decide) (fun _q => absurd rfl _q) (fun _q => ?_)
    refine mj_throw0 (kc := 0) (ks := 0) (names := ["java/lang/RuntimeException", "java/lang/Exception"]) (ci := 11) rfl rfl (by decide +kernel) en_fit cl_RF_82 in_IO at_IO gw_IO d_RF_bits_13 d_RF_bits_16 d_RF_bits_17 d_RF_bits_20 (by decide) ?_
    exact ⟨rfl, rfl⟩
set_option maxRecDepth 100000 in
set_option maxHeartbeats 4000000 in
theorem c_RF_encode {h : mj_H} {b : by_B} {f : Nat → Int32} {r s q : by_B} {pa pb : Nat} {p p2 : pi_P} {v : Int32} (O : Ob h b f r s q pa pb p p2 v) (x : Int32) : mj_Met M_RF_encode (6, 156, none) 1 6 [.ref 0, .int x] h (if ¬ x < 0 ∧ x ≤ 3 then (if p.2.2.1 = 0 then mj_t 10 h else mj_q (some (.int (nI (wr_wr p x.toNatClampNeg (b, f, r, s, q)).1.1))) (wr_fu h (wr_wr p x.toNatClampNeg (b, f, r, s, q)))) else mj_t 9 h) := by
  obtain ⟨o0, B, C, P2, ow, -, ok2, okb, opq⟩ := id O
  obtain ⟨b1, b2, b3, b4⟩ := id B
  obtain ⟨h1, h2, h3, h4, h5, -, w1, w2, w3⟩ := id C.1.1.2.2.1
  refine mj_enter (r := 0) rfl rfl (by decide) rfl ?_
  show mj_W M_RF_encode _ _ _ _ 0 [some (.ref 0), some (.int x)] [] h
  refine mj_iload_n d_RF_encode_0 rfl ?_
  refine mj_if_lt (tgt := 9) d_RF_encode_1 (by decide) (fun c_1 => ?_) (fun c_1 => ?_)
  · refine mj_throw0 (kc := 0) (ks := 0) (names := ["java/lang/RuntimeException", "java/lang/Exception"]) (ci := 9) rfl rfl (by decide +kernel) en_fit cl_RF_61 in_IA at_IA gw_IA d_RF_encode_9 d_RF_encode_12 d_RF_encode_13 d_RF_encode_16 (by decide) ?_
    rw [if_neg (fun g => g.1 c_1)]
    exact ⟨rfl, rfl⟩
  · refine mj_iload_n d_RF_encode_4 rfl ?_
    refine mj_iconst (v := 3) d_RF_encode_5 (by decide) ?_
    refine mj_icmp_le (tgt := 17) d_RF_encode_6 (by decide) (fun c_6 => ?_) (fun c_6 => ?_)
    · refine mj_aload_n d_RF_encode_17 rfl ?_
      refine mj_get ok_RF (k := 4) (by decide) fl_RF_42 d_RF_encode_18 o0 rfl ?_
      refine mj_get ok_Pi (k := 2) (by decide) fl_RF_68 d_RF_encode_21 h1 rfl ?_
      refine mj_if_ne (tgt := 35) d_RF_encode_24 (by decide) (fun c_24 => ?_) (fun c_24 => ?_)
      · rw [if_pos ⟨c_1, c_6⟩, if_neg (fun g => c_24 (by rw [g]; rfl))]
        obtain ⟨k, hk, ek⟩ : ∃ j : Nat, j ≤ 3 ∧ x = nI j := nI_of2 (by decide) c_1 c_6
        subst ek
        rw [nI_clamp (by omega)]
        have F : Fw h b f r s q pa (pa + 1) (pa + 2) (pa + 3) (pa + 4) p := ⟨B, C⟩
        refine mj_aload_n d_RF_encode_35 rfl ?_
        refine mj_get ok_RF (k := 2) (by decide) fl_RF_28 d_RF_encode_36 o0 rfl ?_
        refine mj_aload_n d_RF_encode_39 rfl ?_
        refine mj_get ok_RF (k := 4) (by decide) fl_RF_42 d_RF_encode_40 o0 rfl ?_
        refine mj_iload_n d_RF_encode_43 rfl ?_
        refine mj_aload_n d_RF_encode_44 rfl ?_
        refine mj_get ok_RF (k := 0) (by decide) fl_RF_14 d_RF_encode_45 o0 rfl ?_
        refine mj_aload_n d_RF_encode_48 rfl ?_
        refine mj_get ok_RF (k := 1) (by decide) fl_RF_21 d_RF_encode_49 o0 rfl ?_
        refine mj_cV (S := []) (S1 := []) (c_Wr_write F ow (k := k) (by omega)) d_RF_encode_52 cw_Wr_write ml_RF_107 im_Wr_write se_Wr_write rfl ow (by decide) rfl (Nat.le_of_ble_eq_true rfl) rfl rfl ?_
        have wi : wr_in (wr_wr p k (b, f, r, s, q)) := wr_lp_in _ _ _ _ _ _ ⟨by_addN_le _ _ _ _ (wr_hd_le _ _ _ (Nat.zero_le _)), C.1.1.2.1.2.2.1, C.2.1.2.2.2.1, C.2.2.2.2.1⟩
        have F1 := F.up (b' := (wr_wr p k (b, f, r, s, q)).1) (f' := (wr_wr p k (b, f, r, s, q)).2.1) (r' := (wr_wr p k (b, f, r, s, q)).2.2.1) (s' := (wr_wr p k (b, f, r, s, q)).2.2.2.1) (k' := (wr_wr p k (b, f, r, s, q)).2.2.2.2) wi.1 wi.2.1 wi.2.2.1 wi.2.2.2
        have x0 : (wr_fu h (wr_wr p k (b, f, r, s, q)))[0]? = some _ := (fw_fr (Or.inr (Or.inl rfl))).trans o0
        have x1 : (wr_fu h (wr_wr p k (b, f, r, s, q)))[1]? = some _ := F1.1.1
        refine mj_aload_n d_RF_encode_55 rfl ?_
        refine mj_get ok_RF (k := 0) (by decide) fl_RF_14 d_RF_encode_56 x0 rfl ?_
        refine mj_get ok_By (k := 1) (by decide) fl_RF_111 d_RF_encode_59 x1 rfl ?_
        exact mj_iret rfl d_RF_encode_62 ⟨rfl, rfl⟩
      · refine mj_throw0 (kc := 0) (ks := 0) (names := ["java/lang/RuntimeException", "java/lang/Exception"]) (ci := 10) rfl rfl (by decide +kernel) en_fit cl_RF_71 in_IS at_IS gw_IS d_RF_encode_27 d_RF_encode_30 d_RF_encode_31 d_RF_encode_34 (by decide) ?_
        rw [if_pos ⟨c_1, c_6⟩, if_pos (by rw [show (0 : Int32) = nI 0 from rfl, nI_eq (by omega) (by decide)] at c_24; exact c_24)]
        exact ⟨rfl, rfl⟩
    · refine mj_throw0 (kc := 0) (ks := 0) (names := ["java/lang/RuntimeException", "java/lang/Exception"]) (ci := 9) rfl rfl (by decide +kernel) en_fit cl_RF_61 in_IA at_IA gw_IA d_RF_encode_9 d_RF_encode_12 d_RF_encode_13 d_RF_encode_16 (by decide) ?_
      rw [if_neg (fun g => c_6 g.2)]
      exact ⟨rfl, rfl⟩
set_option maxRecDepth 100000 in
set_option maxHeartbeats 4000000 in
theorem c_RF_patch {h : mj_H} {b : by_B} {f : Nat → Int32} {r s q : by_B} {pa pb : Nat} {p p2 : pi_P} {v : Int32} (O : Ob h b f r s q pa pb p p2 v) (x y : Int32) : mj_Met M_RF_patch (6, 100, none) 1 6 [.ref 0, .int x, .int y] h (if ¬ y < 0 ∧ y ≤ 255 then (if ¬ x < 0 ∧ x ≤ nI b.1 ∧ x < 1500 then (if x = nI b.1 then mj_q (some (.int (-1))) (by_up h 1 2 1500 (by_add 1500 b y)) else mj_q (some (.int (by_get b x))) (by_up h 1 2 1500 (by_chg b x y))) else mj_t 11 h) else mj_t 9 h) := by
  obtain ⟨o0, B, C, P2, ow, -, ok2, okb, opq⟩ := id O
  obtain ⟨b1, b2, b3, b4⟩ := id B
  obtain ⟨h1, h2, h3, h4, h5, -, w1, w2, w3⟩ := id C.1.1.2.2.1
  refine mj_enter (r := 1) rfl rfl (by decide) rfl ?_
  show mj_W M_RF_patch _ _ _ _ 0 [some (.ref 0), some (.int x), some (.int y), none] [] h
  refine mj_iload_n d_RF_patch_0 rfl ?_
  refine mj_if_lt (tgt := 11) d_RF_patch_1 (by decide) (fun c_1 => ?_) (fun c_1 => ?_)
  · refine mj_throw0 (kc := 0) (ks := 0) (names := ["java/lang/RuntimeException", "java/lang/Exception"]) (ci := 9) rfl rfl (by decide +kernel) en_fit cl_RF_61 in_IA at_IA gw_IA d_RF_patch_11 d_RF_patch_14 d_RF_patch_15 d_RF_patch_18 (by decide) ?_
    rw [if_neg (fun g => g.1 c_1)]
    exact ⟨rfl, rfl⟩
  · refine mj_iload_n d_RF_patch_4 rfl ?_
    refine mj_sipush (v := 255) d_RF_patch_5 (by decide) ?_
    refine mj_icmp_le (tgt := 19) d_RF_patch_8 (by decide) (fun c_8 => ?_) (fun c_8 => ?_)
    · refine mj_iload_n d_RF_patch_19 rfl ?_
      refine mj_if_lt (tgt := 41) d_RF_patch_20 (by decide) (fun c_20 => ?_) (fun c_20 => ?_)
      · refine mj_throw0 (kc := 0) (ks := 0) (names := ["java/lang/RuntimeException", "java/lang/Exception"]) (ci := 11) rfl rfl (by decide +kernel) en_fit cl_RF_82 in_IO at_IO gw_IO d_RF_patch_41 d_RF_patch_44 d_RF_patch_45 d_RF_patch_48 (by decide) ?_
        rw [if_pos ⟨c_1, c_8⟩, if_neg (fun g => g.1 c_20)]
        exact ⟨rfl, rfl⟩
      · refine mj_iload_n d_RF_patch_23 rfl ?_
        refine mj_aload_n d_RF_patch_24 rfl ?_
        refine mj_get ok_RF (k := 0) (by decide) fl_RF_14 d_RF_patch_25 o0 rfl ?_
        refine mj_get ok_By (k := 1) (by decide) fl_RF_111 d_RF_patch_28 b1 rfl ?_
        refine mj_icmp_gt (tgt := 41) d_RF_patch_31 (by decide) (fun c_31 => ?_) (fun c_31 => ?_)
        · refine mj_throw0 (kc := 0) (ks := 0) (names := ["java/lang/RuntimeException", "java/lang/Exception"]) (ci := 11) rfl rfl (by decide +kernel) en_fit cl_RF_82 in_IO at_IO gw_IO d_RF_patch_41 d_RF_patch_44 d_RF_patch_45 d_RF_patch_48 (by decide) ?_
          rw [if_pos ⟨c_1, c_8⟩, if_neg (fun g => absurd c_31 (mj_nl g.2.1))]
          exact ⟨rfl, rfl⟩
        · refine mj_iload_n d_RF_patch_34 rfl ?_
          refine mj_sipush (v := 1500) d_RF_patch_35 (by decide) ?_
          refine mj_icmp_lt (tgt := 49) d_RF_patch_38 (by decide) (fun c_38 => ?_) (fun c_38 => ?_)
          · rw [if_pos ⟨c_1, c_8⟩, if_pos ⟨c_20, Int32.not_lt.mp c_31, c_38⟩]
            refine mj_iload_n d_RF_patch_49 rfl ?_
            refine mj_aload_n d_RF_patch_50 rfl ?_
            refine mj_get ok_RF (k := 0) (by decide) fl_RF_14 d_RF_patch_51 o0 rfl ?_
            refine mj_get ok_By (k := 1) (by decide) fl_RF_111 d_RF_patch_54 b1 rfl ?_
            refine mj_icmp_ne (tgt := 70) d_RF_patch_57 (by decide) (fun c_57 => ?_) (fun c_57 => ?_)
            · refine mj_aload_n d_RF_patch_70 rfl ?_
              refine mj_get ok_RF (k := 0) (by decide) fl_RF_14 d_RF_patch_71 o0 rfl ?_
              refine mj_iload_n d_RF_patch_74 rfl ?_
              rw [if_neg c_57]
              refine mj_cV (S := []) (S1 := [.int (by_get b x)]) (c_By_at B x) d_RF_patch_75 cw_By_at ml_RF_131 im_By_at se_By_at rfl b1 (by decide) rfl (Nat.le_of_ble_eq_true rfl) rfl rfl ?_
              refine mj_topi (fun v1 e_v1 => ?_)
              refine mj_istore_n (L' := [some (.ref 0), some (.int x), some (.int y), some (.int v1)]) d_RF_patch_78 (by decide) rfl rfl ?_
              refine mj_aload_n d_RF_patch_79 rfl ?_
              refine mj_get ok_RF (k := 0) (by decide) fl_RF_14 d_RF_patch_80 o0 rfl ?_
              refine mj_iload_n d_RF_patch_83 rfl ?_
              refine mj_iload_n d_RF_patch_84 rfl ?_
              refine mj_cV (S := []) (S1 := []) (c_By_change B x y) d_RF_patch_85 cw_By_change ml_RF_137 im_By_change se_By_change rfl b1 (by decide) rfl (Nat.le_of_ble_eq_true rfl) rfl rfl ?_
              refine mj_iload_n d_RF_patch_88 rfl ?_
              exact mj_iret rfl d_RF_patch_89 ⟨by rw [e_v1], rfl⟩
            · refine mj_aload_n d_RF_patch_60 rfl ?_
              refine mj_get ok_RF (k := 0) (by decide) fl_RF_14 d_RF_patch_61 o0 rfl ?_
              refine mj_iload_n d_RF_patch_64 rfl ?_
              rw [if_pos c_57]
              refine mj_cV (S := []) (S1 := []) (c_By_add B y) d_RF_patch_65 cw_By_add ml_RF_134 im_By_add se_By_add rfl b1 (by decide) rfl (Nat.le_of_ble_eq_true rfl) rfl rfl ?_
              refine mj_iconst (v := (-1)) d_RF_patch_68 (by decide) ?_
              exact mj_iret rfl d_RF_patch_69 ⟨rfl, rfl⟩
          · refine mj_throw0 (kc := 0) (ks := 0) (names := ["java/lang/RuntimeException", "java/lang/Exception"]) (ci := 11) rfl rfl (by decide +kernel) en_fit cl_RF_82 in_IO at_IO gw_IO d_RF_patch_41 d_RF_patch_44 d_RF_patch_45 d_RF_patch_48 (by decide) ?_
            rw [if_pos ⟨c_1, c_8⟩, if_neg (fun g => c_38 g.2.2)]
            exact ⟨rfl, rfl⟩
    · refine mj_throw0 (kc := 0) (ks := 0) (names := ["java/lang/RuntimeException", "java/lang/Exception"]) (ci := 9) rfl rfl (by decide +kernel) en_fit cl_RF_61 in_IA at_IA gw_IA d_RF_patch_11 d_RF_patch_14 d_RF_patch_15 d_RF_patch_18 (by decide) ?_
      rw [if_neg (fun g => c_8 g.2)]
      exact ⟨rfl, rfl⟩
