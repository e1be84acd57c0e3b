def rf_val (v : UInt64) : Prop := ¬ Op.cmpValue (FP.dcmp v 14279012646494702826) .l < 0 ∧ ¬ 0 < Op.cmpValue (FP.dcmp v 5055640609639927018) .g
def rf_valD (v : UInt64) : Decidable (rf_val v) := by unfold rf_val; infer_instance
set_option maxRecDepth 100000 in
set_option maxHeartbeats 4000000 in
theorem c_RF_isValue {h : mj_H} (v : UInt64) : mj_Met M_RF_isValue (0, 0, none) 0 0 [.double v] h (mj_q (some (.int (@ite Int32 (rf_val v) (rf_valD v) 1 0))) h) := by
  refine mj_enter (r := 0) rfl rfl (by decide) rfl ?_
  show mj_W M_RF_isValue _ _ _ _ 0 [some (.double v), none] [] h
  refine mj_dload_n d_RF_isValue_0 rfl ?_
  refine mj_ldc2d d_RF_isValue_1 kd_RF_154 ?_
  refine mj_dcmp d_RF_isValue_4 ?_
  refine mj_if_lt (tgt := 20) d_RF_isValue_5 (by decide) (fun c_5 => ?_) (fun c_5 => ?_)
  · refine mj_iconst (v := 0) d_RF_isValue_20 (by decide) ?_
    exact mj_zret rfl rfl d_RF_isValue_21 ⟨by rw [@if_neg _ (rf_valD v) (fun g => g.1 c_5)], rfl⟩
  · refine mj_dload_n d_RF_isValue_8 rfl ?_
    refine mj_ldc2d d_RF_isValue_9 kd_RF_156 ?_
    refine mj_dcmp d_RF_isValue_12 ?_
    refine mj_if_gt (tgt := 20) d_RF_isValue_13 (by decide) (fun c_13 => ?_) (fun c_13 => ?_)
    · refine mj_iconst (v := 0) d_RF_isValue_20 (by decide) ?_
      exact mj_zret rfl rfl d_RF_isValue_21 ⟨by rw [@if_neg _ (rf_valD v) (fun g => g.2 c_13)], rfl⟩
    · refine mj_iconst (v := 1) d_RF_isValue_16 (by decide) ?_
      refine mj_goto (tgt := 21) d_RF_isValue_17 (by decide) ?_
      exact mj_zret rfl rfl d_RF_isValue_21 ⟨by rw [@if_pos _ (rf_valD v) ⟨c_5, c_13⟩], rfl⟩
set_option maxRecDepth 100000 in
set_option maxHeartbeats 4000000 in
theorem c_RF_channel {h : mj_H} {b : by_B} {f : Nat → Int32} {r s q : by_B} {pa pb : Nat} {p p2 : pi_P} {v : Int32} (O : Ob h b f r s q pa pb p p2 v) (x y z : Int32) : mj_Met M_RF_channel (6, 100, none) 1 6 [.ref 0, .int x, .int y, .int z] h (if (¬ x < pi_lst p ∧ ¬ 122 < x) ∧ (¬ y < 0 ∧ ¬ 2 < y) ∧ (¬ z < 1 ∧ ¬ 2 < z) then (if p.2.2.1 < 3 then mj_q (some (.int (nI (p.2.2.1 + 1)))) (ob_up h pa (pi_add p x y z)) else mj_t 10 h) else mj_t 9 h) := by
  obtain ⟨o0, B, C, P2, ow, -, ok2, okb, opq⟩ := id O
  obtain ⟨b1, b2, b3, b4⟩ := id B
  obtain ⟨h1, h2, h3, h4, h5, -, w1, w2, w3⟩ := id C.1.1.2.2.1
  refine mj_enter (r := 2) rfl rfl (by decide) rfl ?_
  show mj_W M_RF_channel _ _ _ _ 0 [some (.ref 0), some (.int x), some (.int y), some (.int z), none, none] [] h
  refine mj_iload_n d_RF_channel_0 rfl ?_
  refine mj_if_lt (tgt := 13) d_RF_channel_1 (by decide) (fun c_1 => ?_) (fun c_1 => ?_)
  · refine mj_iconst (v := 0) d_RF_channel_13 (by decide) ?_
    refine mj_istore (L' := [some (.ref 0), some (.int x), some (.int y), some (.int z), some (.int 0), none]) d_RF_channel_14 (by decide) rfl rfl ?_
    refine mj_iload_n d_RF_channel_16 rfl ?_
    refine mj_iconst (v := 1) d_RF_channel_17 (by decide) ?_
    refine mj_icmp_lt (tgt := 30) d_RF_channel_18 (by decide) (fun c_18 => ?_) (fun c_18 => ?_)
    · refine mj_iconst (v := 0) d_RF_channel_30 (by decide) ?_
      refine mj_istore (L' := [some (.ref 0), some (.int x), some (.int y), some (.int z), some (.int 0), some (.int 0)]) d_RF_channel_31 (by decide) rfl rfl ?_
      refine mj_iload_n d_RF_channel_33 rfl ?_
      refine mj_aload_n d_RF_channel_34 rfl ?_
      refine mj_get ok_RF (k := 4) (by decide) fl_RF_42 d_RF_channel_35 o0 rfl ?_
      refine mj_cV (S := [.int x]) (S1 := [.int (pi_lst p), .int x]) (c_Pi_leastLetter C.1.1.2.2.1) d_RF_channel_38 cw_Pi_leastLetter ml_RF_64 im_Pi_leastLetter se_Pi_leastLetter rfl h1 (by decide) rfl (Nat.le_of_ble_eq_true rfl) rfl rfl ?_
      refine mj_icmp_lt (tgt := 60) d_RF_channel_41 (by decide) (fun c_41 => ?_) (fun c_41 => ?_)
      · refine mj_throw0 (kc := 0) (ks := 0) (names := ["java/lang/RuntimeException", "java/lang/Exception"]) (ci := 9) rfl rfl (by decide +kernel) en_fit cl_RF_61 in_IA at_IA gw_IA d_RF_channel_60 d_RF_channel_63 d_RF_channel_64 d_RF_channel_67 (by decide) ?_
        rw [if_neg (fun g => g.1.1 c_41)]
        exact ⟨rfl, rfl⟩
      · refine mj_iload_n d_RF_channel_44 rfl ?_
        refine mj_bipush (v := 122) d_RF_channel_45 (by decide) ?_
        refine mj_icmp_gt (tgt := 60) d_RF_channel_47 (by decide) (fun c_47 => ?_) (fun c_47 => ?_)
        · refine mj_throw0 (kc := 0) (ks := 0) (names := ["java/lang/RuntimeException", "java/lang/Exception"]) (ci := 9) rfl rfl (by decide +kernel) en_fit cl_RF_61 in_IA at_IA gw_IA d_RF_channel_60 d_RF_channel_63 d_RF_channel_64 d_RF_channel_67 (by decide) ?_
          rw [if_neg (fun g => g.1.2 c_47)]
          exact ⟨rfl, rfl⟩
        · refine mj_iload d_RF_channel_50 rfl ?_
          refine mj_if_eq (tgt := 60) d_RF_channel_52 (by decide) (fun _q => ?_) (fun _q => absurd rfl _q)
          refine mj_throw0 (kc := 0) (ks := 0) (names := ["java/lang/RuntimeException", "java/lang/Exception"]) (ci := 9) rfl rfl (by decide +kernel) en_fit cl_RF_61 in_IA at_IA gw_IA d_RF_channel_60 d_RF_channel_63 d_RF_channel_64 d_RF_channel_67 (by decide) ?_
          rw [if_neg (fun g => g.2.1.1 c_1)]
          exact ⟨rfl, rfl⟩
    · refine mj_iload_n d_RF_channel_21 rfl ?_
      refine mj_iconst (v := 2) d_RF_channel_22 (by decide) ?_
      refine mj_icmp_gt (tgt := 30) d_RF_channel_23 (by decide) (fun c_23 => ?_) (fun c_23 => ?_)
      · refine mj_iconst (v := 0) d_RF_channel_30 (by decide) ?_
        refine mj_istore (L' := [some (.ref 0), some (.int x), some (.int y), some (.int z), some (.int 0), some (.int 0)]) d_RF_channel_31 (by decide) rfl rfl ?_
        refine mj_iload_n d_RF_channel_33 rfl ?_
        refine mj_aload_n d_RF_channel_34 rfl ?_
        refine mj_get ok_RF (k := 4) (by decide) fl_RF_42 d_RF_channel_35 o0 rfl ?_
        refine mj_cV (S := [.int x]) (S1 := [.int (pi_lst p), .int x]) (c_Pi_leastLetter C.1.1.2.2.1) d_RF_channel_38 cw_Pi_leastLetter ml_RF_64 im_Pi_leastLetter se_Pi_leastLetter rfl h1 (by decide) rfl (Nat.le_of_ble_eq_true rfl) rfl rfl ?_
        refine mj_icmp_lt (tgt := 60) d_RF_channel_41 (by decide) (fun c_41 => ?_) (fun c_41 => ?_)
        · refine mj_throw0 (kc := 0) (ks := 0) (names := ["java/lang/RuntimeException", "java/lang/Exception"]) (ci := 9) rfl rfl (by decide +kernel) en_fit cl_RF_61 in_IA at_IA gw_IA d_RF_channel_60 d_RF_channel_63 d_RF_channel_64 d_RF_channel_67 (by decide) ?_
          rw [if_neg (fun g => g.1.1 c_41)]
          exact ⟨rfl, rfl⟩
        · refine mj_iload_n d_RF_channel_44 rfl ?_
          refine mj_bipush (v := 122) d_RF_channel_45 (by decide) ?_
          refine mj_icmp_gt (tgt := 60) d_RF_channel_47 (by decide) (fun c_47 => ?_) (fun c_47 => ?_)
          · refine mj_throw0 (kc := 0) (ks := 0) (names := ["java/lang/RuntimeException", "java/lang/Exception"]) (ci := 9) rfl rfl (by decide +kernel) en_fit cl_RF_61 in_IA at_IA gw_IA d_RF_channel_60 d_RF_channel_63 d_RF_channel_64 d_RF_channel_67 (by decide) ?_
            rw [if_neg (fun g => g.1.2 c_47)]
            exact ⟨rfl, rfl⟩
          · refine mj_iload d_RF_channel_50 rfl ?_
            refine mj_if_eq (tgt := 60) d_RF_channel_52 (by decide) (fun _q => ?_) (fun _q => absurd rfl _q)
            refine mj_throw0 (kc := 0) (ks := 0) (names := ["java/lang/RuntimeException", "java/lang/Exception"]) (ci := 9) rfl rfl (by decide +kernel) en_fit cl_RF_61 in_IA at_IA gw_IA d_RF_channel_60 d_RF_channel_63 d_RF_channel_64 d_RF_channel_67 (by decide) ?_
            rw [if_neg (fun g => g.2.1.1 c_1)]
            exact ⟨rfl, rfl⟩
      · refine mj_iconst (v := 1) d_RF_channel_26 (by decide) ?_
        refine mj_goto (tgt := 31) d_RF_channel_27 (by decide) ?_
        refine mj_istore (L' := [some (.ref 0), some (.int x), some (.int y), some (.int z), some (.int 0), some (.int 1)]) d_RF_channel_31 (by decide) rfl rfl ?_
        refine mj_iload_n d_RF_channel_33 rfl ?_
        refine mj_aload_n d_RF_channel_34 rfl ?_
        refine mj_get ok_RF (k := 4) (by decide) fl_RF_42 d_RF_channel_35 o0 rfl ?_
        refine mj_cV (S := [.int x]) (S1 := [.int (pi_lst p), .int x]) (c_Pi_leastLetter C.1.1.2.2.1) d_RF_channel_38 cw_Pi_leastLetter ml_RF_64 im_Pi_leastLetter se_Pi_leastLetter rfl h1 (by decide) rfl (Nat.le_of_ble_eq_true rfl) rfl rfl ?_
        refine mj_icmp_lt (tgt := 60) d_RF_channel_41 (by decide) (fun c_41 => ?_) (fun c_41 => ?_)
        · refine mj_throw0 (kc := 0) (ks := 0) (names := ["java/lang/RuntimeException", "java/lang/Exception"]) (ci := 9) rfl rfl (by decide +kernel) en_fit cl_RF_61 in_IA at_IA gw_IA d_RF_channel_60 d_RF_channel_63 d_RF_channel_64 d_RF_channel_67 (by decide) ?_
          rw [if_neg (fun g => g.1.1 c_41)]
          exact ⟨rfl, rfl⟩
        · refine mj_iload_n d_RF_channel_44 rfl ?_
          refine mj_bipush (v := 122) d_RF_channel_45 (by decide) ?_
          refine mj_icmp_gt (tgt := 60) d_RF_channel_47 (by decide) (fun c_47 => ?_) (fun c_47 => ?_)
          · refine mj_throw0 (kc := 0) (ks := 0) (names := ["java/lang/RuntimeException", "java/lang/Exception"]) (ci := 9) rfl rfl (by decide +kernel) en_fit cl_RF_61 in_IA at_IA gw_IA d_RF_channel_60 d_RF_channel_63 d_RF_channel_64 d_RF_channel_67 (by decide) ?_
            rw [if_neg (fun g => g.1.2 c_47)]
            exact ⟨rfl, rfl⟩
          · refine mj_iload d_RF_channel_50 rfl ?_
            refine mj_if_eq (tgt := 60) d_RF_channel_52 (by decide) (fun _q => ?_) (fun _q => absurd rfl _q)
            refine mj_throw0 (kc := 0) (ks := 0) (names := ["java/lang/RuntimeException", "java/lang/Exception"]) (ci := 9) rfl rfl (by decide +kernel) en_fit cl_RF_61 in_IA at_IA gw_IA d_RF_channel_60 d_RF_channel_63 d_RF_channel_64 d_RF_channel_67 (by decide) ?_
            rw [if_neg (fun g => g.2.1.1 c_1)]
            exact ⟨rfl, rfl⟩
  · refine mj_iload_n d_RF_channel_4 rfl ?_
    refine mj_iconst (v := 2) d_RF_channel_5 (by decide) ?_
    refine mj_icmp_gt (tgt := 13) d_RF_channel_6 (by decide) (fun c_6 => ?_) (fun c_6 => ?_)
    · refine mj_iconst (v := 0) d_RF_channel_13 (by decide) ?_
      refine mj_istore (L' := [some (.ref 0), some (.int x), some (.int y), some (.int z), some (.int 0), none]) d_RF_channel_14 (by decide) rfl rfl ?_
      refine mj_iload_n d_RF_channel_16 rfl ?_
      refine mj_iconst (v := 1) d_RF_channel_17 (by decide) ?_
      refine mj_icmp_lt (tgt := 30) d_RF_channel_18 (by decide) (fun c_18 => ?_) (fun c_18 => ?_)
      · refine mj_iconst (v := 0) d_RF_channel_30 (by decide) ?_
        refine mj_istore (L' := [some (.ref 0), some (.int x), some (.int y), some (.int z), some (.int 0), some (.int 0)]) d_RF_channel_31 (by decide) rfl rfl ?_
        refine mj_iload_n d_RF_channel_33 rfl ?_
        refine mj_aload_n d_RF_channel_34 rfl ?_
        refine mj_get ok_RF (k := 4) (by decide) fl_RF_42 d_RF_channel_35 o0 rfl ?_
        refine mj_cV (S := [.int x]) (S1 := [.int (pi_lst p), .int x]) (c_Pi_leastLetter C.1.1.2.2.1) d_RF_channel_38 cw_Pi_leastLetter ml_RF_64 im_Pi_leastLetter se_Pi_leastLetter rfl h1 (by decide) rfl (Nat.le_of_ble_eq_true rfl) rfl rfl ?_
        refine mj_icmp_lt (tgt := 60) d_RF_channel_41 (by decide) (fun c_41 => ?_) (fun c_41 => ?_)
        · refine mj_throw0 (kc := 0) (ks := 0) (names := ["java/lang/RuntimeException", "java/lang/Exception"]) (ci := 9) rfl rfl (by decide +kernel) en_fit cl_RF_61 in_IA at_IA gw_IA d_RF_channel_60 d_RF_channel_63 d_RF_channel_64 d_RF_channel_67 (by decide) ?_
          rw [if_neg (fun g => g.1.1 c_41)]
          exact ⟨rfl, rfl⟩
        · refine mj_iload_n d_RF_channel_44 rfl ?_
          refine mj_bipush (v := 122) d_RF_channel_45 (by decide) ?_
          refine mj_icmp_gt (tgt := 60) d_RF_channel_47 (by decide) (fun c_47 => ?_) (fun c_47 => ?_)
          · refine mj_throw0 (kc := 0) (ks := 0) (names := ["java/lang/RuntimeException", "java/lang/Exception"]) (ci := 9) rfl rfl (by decide +kernel) en_fit cl_RF_61 in_IA at_IA gw_IA d_RF_channel_60 d_RF_channel_63 d_RF_channel_64 d_RF_channel_67 (by decide) ?_
            rw [if_neg (fun g => g.1.2 c_47)]
            exact ⟨rfl, rfl⟩
          · refine mj_iload d_RF_channel_50 rfl ?_
            refine mj_if_eq (tgt := 60) d_RF_channel_52 (by decide) (fun _q => ?_) (fun _q => absurd rfl _q)
            refine mj_throw0 (kc := 0) (ks := 0) (names := ["java/lang/RuntimeException", "java/lang/Exception"]) (ci := 9) rfl rfl (by decide +kernel) en_fit cl_RF_61 in_IA at_IA gw_IA d_RF_channel_60 d_RF_channel_63 d_RF_channel_64 d_RF_channel_67 (by decide) ?_
            rw [if_neg (fun g => g.2.1.2 c_6)]
            exact ⟨rfl, rfl⟩
      · refine mj_iload_n d_RF_channel_21 rfl ?_
        refine mj_iconst (v := 2) d_RF_channel_22 (by decide) ?_
        refine mj_icmp_gt (tgt := 30) d_RF_channel_23 (by decide) (fun c_23 => ?_) (fun c_23 => ?_)
        · refine mj_iconst (v := 0) d_RF_channel_30 (by decide) ?_
          refine mj_istore (L' := [some (.ref 0), some (.int x), some (.int y), some (.int z), some (.int 0), some (.int 0)]) d_RF_channel_31 (by decide) rfl rfl ?_
          refine mj_iload_n d_RF_channel_33 rfl ?_
          refine mj_aload_n d_RF_channel_34 rfl ?_
          refine mj_get ok_RF (k := 4) (by decide) fl_RF_42 d_RF_channel_35 o0 rfl ?_
          refine mj_cV (S := [.int x]) (S1 := [.int (pi_lst p), .int x]) (c_Pi_leastLetter C.1.1.2.2.1) d_RF_channel_38 cw_Pi_leastLetter ml_RF_64 im_Pi_leastLetter se_Pi_leastLetter rfl h1 (by decide) rfl (Nat.le_of_ble_eq_true rfl) rfl rfl ?_
          refine mj_icmp_lt (tgt := 60) d_RF_channel_41 (by decide) (fun c_41 => ?_) (fun c_41 => ?_)
          · refine mj_throw0 (kc := 0) (ks := 0) (names := ["java/lang/RuntimeException", "java/lang/Exception"]) (ci := 9) rfl rfl (by decide +kernel) en_fit cl_RF_61 in_IA at_IA gw_IA d_RF_channel_60 d_RF_channel_63 d_RF_channel_64 d_RF_channel_67 (by decide) ?_
            rw [if_neg (fun g => g.1.1 c_41)]
            exact ⟨rfl, rfl⟩
          · refine mj_iload_n d_RF_channel_44 rfl ?_
            refine mj_bipush (v := 122) d_RF_channel_45 (by decide) ?_
            refine mj_icmp_gt (tgt := 60) d_RF_channel_47 (by decide) (fun c_47 => ?_) (fun c_47 => ?_)
            · refine mj_throw0 (kc := 0) (ks := 0) (names := ["java/lang/RuntimeException", "java/lang/Exception"]) (ci := 9) rfl rfl (by decide +kernel) en_fit cl_RF_61 in_IA at_IA gw_IA d_RF_channel_60 d_RF_channel_63 d_RF_channel_64 d_RF_channel_67 (by decide) ?_
              rw [if_neg (fun g => g.1.2 c_47)]
              exact ⟨rfl, rfl⟩
            · refine mj_iload d_RF_channel_50 rfl ?_
              refine mj_if_eq (tgt := 60) d_RF_channel_52 (by decide) (fun _q => ?_) (fun _q => absurd rfl _q)
              refine mj_throw0 (kc := 0) (ks := 0) (names := ["java/lang/RuntimeException", "java/lang/Exception"]) (ci := 9) rfl rfl (by decide +kernel) en_fit cl_RF_61 in_IA at_IA gw_IA d_RF_channel_60 d_RF_channel_63 d_RF_channel_64 d_RF_channel_67 (by decide) ?_
              rw [if_neg (fun g => g.2.1.2 c_6)]
              exact ⟨rfl, rfl⟩
        · refine mj_iconst (v := 1) d_RF_channel_26 (by decide) ?_
          refine mj_goto (tgt := 31) d_RF_channel_27 (by decide) ?_
          refine mj_istore (L' := [some (.ref 0), some (.int x), some (.int y), some (.int z), some (.int 0), some (.int 1)]) d_RF_channel_31 (by decide) rfl rfl ?_
          refine mj_iload_n d_RF_channel_33 rfl ?_
          refine mj_aload_n d_RF_channel_34 rfl ?_
          refine mj_get ok_RF (k := 4) (by decide) fl_RF_42 d_RF_channel_35 o0 rfl ?_
          refine mj_cV (S := [.int x]) (S1 := [.int (pi_lst p), .int x]) (c_Pi_leastLetter C.1.1.2.2.1) d_RF_channel_38 cw_Pi_leastLetter ml_RF_64 im_Pi_leastLetter se_Pi_leastLetter rfl h1 (by decide) rfl (Nat.le_of_ble_eq_true rfl) rfl rfl ?_
          refine mj_icmp_lt (tgt := 60) d_RF_channel_41 (by decide) (fun c_41 => ?_) (fun c_41 => ?_)
          · refine mj_throw0 (kc := 0) (ks := 0) (names := ["java/lang/RuntimeException", "java/lang/Exception"]) (ci := 9) rfl rfl (by decide +kernel) en_fit cl_RF_61 in_IA at_IA gw_IA d_RF_channel_60 d_RF_channel_63 d_RF_channel_64 d_RF_channel_67 (by decide) ?_
            rw [if_neg (fun g => g.1.1 c_41)]
            exact ⟨rfl, rfl⟩
          · refine mj_iload_n d_RF_channel_44 rfl ?_
            refine mj_bipush (v := 122) d_RF_channel_45 (by decide) ?_
            refine mj_icmp_gt (tgt := 60) d_RF_channel_47 (by decide) (fun c_47 => ?_) (fun c_47 => ?_)
            · refine mj_throw0 (kc := 0) (ks := 0) (names := ["java/lang/RuntimeException", "java/lang/Exception"]) (ci := 9) rfl rfl (by decide +kernel) en_fit cl_RF_61 in_IA at_IA gw_IA d_RF_channel_60 d_RF_channel_63 d_RF_channel_64 d_RF_channel_67 (by decide) ?_
              rw [if_neg (fun g => g.1.2 c_47)]
              exact ⟨rfl, rfl⟩
            · refine mj_iload d_RF_channel_50 rfl ?_
              refine mj_if_eq (tgt := 60) d_RF_channel_52 (by decide) (fun _q => ?_) (fun _q => absurd rfl _q)
              refine mj_throw0 (kc := 0) (ks := 0) (names := ["java/lang/RuntimeException", "java/lang/Exception"]) (ci := 9) rfl rfl (by decide +kernel) en_fit cl_RF_61 in_IA at_IA gw_IA d_RF_channel_60 d_RF_channel_63 d_RF_channel_64 d_RF_channel_67 (by decide) ?_
              rw [if_neg (fun g => g.2.1.2 c_6)]
              exact ⟨rfl, rfl⟩
    · refine mj_iconst (v := 1) d_RF_channel_9 (by decide) ?_
      refine mj_goto (tgt := 14) d_RF_channel_10 (by decide) ?_
      refine mj_istore (L' := [some (.ref 0), some (.int x), some (.int y), some (.int z), some (.int 1), none]) d_RF_channel_14 (by decide) rfl rfl ?_
      refine mj_iload_n d_RF_channel_16 rfl ?_
      refine mj_iconst (v := 1) d_RF_channel_17 (by decide) ?_
      refine mj_icmp_lt (tgt := 30) d_RF_channel_18 (by decide) (fun c_18 => ?_) (fun c_18 => ?_)
      · refine mj_iconst (v := 0) d_RF_channel_30 (by decide) ?_
        refine mj_istore (L' := [some (.ref 0), some (.int x), some (.int y), some (.int z), some (.int 1), some (.int 0)]) d_RF_channel_31 (by decide) rfl rfl ?_
        refine mj_iload_n d_RF_channel_33 rfl ?_
        refine mj_aload_n d_RF_channel_34 rfl ?_
        refine mj_get ok_RF (k := 4) (by decide) fl_RF_42 d_RF_channel_35 o0 rfl ?_
        refine mj_cV (S := [.int x]) (S1 := [.int (pi_lst p), .int x]) (c_Pi_leastLetter C.1.1.2.2.1) d_RF_channel_38 cw_Pi_leastLetter ml_RF_64 im_Pi_leastLetter se_Pi_leastLetter rfl h1 (by decide) rfl (Nat.le_of_ble_eq_true rfl) rfl rfl ?_
        refine mj_icmp_lt (tgt := 60) d_RF_channel_41 (by decide) (fun c_41 => ?_) (fun c_41 => ?_)
        · refine mj_throw0 (kc := 0) (ks := 0) (names := ["java/lang/RuntimeException", "java/lang/Exception"]) (ci := 9) rfl rfl (by decide +kernel) en_fit cl_RF_61 in_IA at_IA gw_IA d_RF_channel_60 d_RF_channel_63 d_RF_channel_64 d_RF_channel_67 (by decide) ?_
          rw [if_neg (fun g => g.1.1 c_41)]
          exact ⟨rfl, rfl⟩
        · refine mj_iload_n d_RF_channel_44 rfl ?_
          refine mj_bipush (v := 122) d_RF_channel_45 (by decide) ?_
          refine mj_icmp_gt (tgt := 60) d_RF_channel_47 (by decide) (fun c_47 => ?_) (fun c_47 => ?_)
          · refine mj_throw0 (kc := 0) (ks := 0) (names := ["java/lang/RuntimeException", "java/lang/Exception"]) (ci := 9) rfl rfl (by decide +kernel) en_fit cl_RF_61 in_IA at_IA gw_IA d_RF_channel_60 d_RF_channel_63 d_RF_channel_64 d_RF_channel_67 (by decide) ?_
            rw [if_neg (fun g => g.1.2 c_47)]
            exact ⟨rfl, rfl⟩
          · refine mj_iload d_RF_channel_50 rfl ?_
            refine mj_if_eq (tgt := 60) d_RF_channel_52 (by decide) (fun _q => absurd _q (by decide)) (fun _q => ?_)
            refine mj_iload d_RF_channel_55 rfl ?_
            refine mj_if_ne (tgt := 68) d_RF_channel_57 (by decide) (fun _q => absurd rfl _q) (fun _q => ?_)
            refine mj_throw0 (kc := 0) (ks := 0) (names := ["java/lang/RuntimeException", "java/lang/Exception"]) (ci := 9) rfl rfl (by decide +kernel) en_fit cl_RF_61 in_IA at_IA gw_IA d_RF_channel_60 d_RF_channel_63 d_RF_channel_64 d_RF_channel_67 (by decide) ?_
            rw [if_neg (fun g => g.2.2.1 c_18)]
            exact ⟨rfl, rfl⟩
      · refine mj_iload_n d_RF_channel_21 rfl ?_
        refine mj_iconst (v := 2) d_RF_channel_22 (by decide) ?_
        refine mj_icmp_gt (tgt := 30) d_RF_channel_23 (by decide) (fun c_23 => ?_) (fun c_23 => ?_)
        · refine mj_iconst (v := 0) d_RF_channel_30 (by decide) ?_
          refine mj_istore (L' := [some (.ref 0), some (.int x), some (.int y), some (.int z), some (.int 1), some (.int 0)]) d_RF_channel_31 (by decide) rfl rfl ?_
          refine mj_iload_n d_RF_channel_33 rfl ?_
          refine mj_aload_n d_RF_channel_34 rfl ?_
          refine mj_get ok_RF (k := 4) (by decide) fl_RF_42 d_RF_channel_35 o0 rfl ?_
          refine mj_cV (S := [.int x]) (S1 := [.int (pi_lst p), .int x]) (c_Pi_leastLetter C.1.1.2.2.1) d_RF_channel_38 cw_Pi_leastLetter ml_RF_64 im_Pi_leastLetter se_Pi_leastLetter rfl h1 (by decide) rfl (Nat.le_of_ble_eq_true rfl) rfl rfl ?_
          refine mj_icmp_lt (tgt := 60) d_RF_channel_41 (by decide) (fun c_41 => ?_) (fun c_41 => ?_)
          · refine mj_throw0 (kc := 0) (ks := 0) (names := ["java/lang/RuntimeException", "java/lang/Exception"]) (ci := 9) rfl rfl (by decide +kernel) en_fit cl_RF_61 in_IA at_IA gw_IA d_RF_channel_60 d_RF_channel_63 d_RF_channel_64 d_RF_channel_67 (by decide) ?_
            rw [if_neg (fun g => g.1.1 c_41)]
            exact ⟨rfl, rfl⟩
          · refine mj_iload_n d_RF_channel_44 rfl ?_
            refine mj_bipush (v := 122) d_RF_channel_45 (by decide) ?_
            refine mj_icmp_gt (tgt := 60) d_RF_channel_47 (by decide) (fun c_47 => ?_) (fun c_47 => ?_)
            · refine mj_throw0 (kc := 0) (ks := 0) (names := ["java/lang/RuntimeException", "java/lang/Exception"]) (ci := 9) rfl rfl (by decide +kernel) en_fit cl_RF_61 in_IA at_IA gw_IA d_RF_channel_60 d_RF_channel_63 d_RF_channel_64 d_RF_channel_67 (by decide) ?_
              rw [if_neg (fun g => g.1.2 c_47)]
              exact ⟨rfl, rfl⟩
            · refine mj_iload d_RF_channel_50 rfl ?_
              refine mj_if_eq (tgt := 60) d_RF_channel_52 (by decide) (fun _q => absurd _q (by decide)) (fun _q => ?_)
              refine mj_iload d_RF_channel_55 rfl ?_
              refine mj_if_ne (tgt := 68) d_RF_channel_57 (by decide) (fun _q => absurd rfl _q) (fun _q => ?_)
              refine mj_throw0 (kc := 0) (ks := 0) (names := ["java/lang/RuntimeException", "java/lang/Exception"]) (ci := 9) rfl rfl (by decide +kernel) en_fit cl_RF_61 in_IA at_IA gw_IA d_RF_channel_60 d_RF_channel_63 d_RF_channel_64 d_RF_channel_67 (by decide) ?_
              rw [if_neg (fun g => g.2.2.2 c_23)]
              exact ⟨rfl, rfl⟩
        · refine mj_iconst (v := 1) d_RF_channel_26 (by decide) ?_
          refine mj_goto (tgt := 31) d_RF_channel_27 (by decide) ?_
          refine mj_istore (L' := [some (.ref 0), some (.int x), some (.int y), some (.int z), some (.int 1), some (.int 1)]) d_RF_channel_31 (by decide) rfl rfl ?_
          refine mj_iload_n d_RF_channel_33 rfl ?_
          refine mj_aload_n d_RF_channel_34 rfl ?_
          refine mj_get ok_RF (k := 4) (by decide) fl_RF_42 d_RF_channel_35 o0 rfl ?_
          refine mj_cV (S := [.int x]) (S1 := [.int (pi_lst p), .int x]) (c_Pi_leastLetter C.1.1.2.2.1) d_RF_channel_38 cw_Pi_leastLetter ml_RF_64 im_Pi_leastLetter se_Pi_leastLetter rfl h1 (by decide) rfl (Nat.le_of_ble_eq_true rfl) rfl rfl ?_
          refine mj_icmp_lt (tgt := 60) d_RF_channel_41 (by decide) (fun c_41 => ?_) (fun c_41 => ?_)
          · refine mj_throw0 (kc := 0) (ks := 0) (names := ["java/lang/RuntimeException", "java/lang/Exception"]) (ci := 9) rfl rfl (by decide +kernel) en_fit cl_RF_61 in_IA at_IA gw_IA d_RF_channel_60 d_RF_channel_63 d_RF_channel_64 d_RF_channel_67 (by decide) ?_
            rw [if_neg (fun g => g.1.1 c_41)]
            exact ⟨rfl, rfl⟩
          · refine mj_iload_n d_RF_channel_44 rfl ?_
            refine mj_bipush (v := 122) d_RF_channel_45 (by decide) ?_
            refine mj_icmp_gt (tgt := 60) d_RF_channel_47 (by decide) (fun c_47 => ?_) (fun c_47 => ?_)
            · refine mj_throw0 (kc := 0) (ks := 0) (names := ["java/lang/RuntimeException", "java/lang/Exception"]) (ci := 9) rfl rfl (by decide +kernel) en_fit cl_RF_61 in_IA at_IA gw_IA d_RF_channel_60 d_RF_channel_63 d_RF_channel_64 d_RF_channel_67 (by decide) ?_
              rw [if_neg (fun g => g.1.2 c_47)]
              exact ⟨rfl, rfl⟩
            · refine mj_iload d_RF_channel_50 rfl ?_
              refine mj_if_eq (tgt := 60) d_RF_channel_52 (by decide) (fun _q => absurd _q (by decide)) (fun _q => ?_)
              refine mj_iload d_RF_channel_55 rfl ?_
              refine mj_if_ne (tgt := 68) d_RF_channel_57 (by decide) (fun _q => ?_) (fun _q => absurd _q (by decide))
              refine mj_aload_n d_RF_channel_68 rfl ?_
              refine mj_get ok_RF (k := 4) (by decide) fl_RF_42 d_RF_channel_69 o0 rfl ?_
              refine mj_get ok_Pi (k := 2) (by decide) fl_RF_68 d_RF_channel_72 h1 rfl ?_
              refine mj_iconst (v := 3) d_RF_channel_75 (by decide) ?_
              refine mj_icmp_lt (tgt := 87) d_RF_channel_76 (by decide) (fun c_76 => ?_) (fun c_76 => ?_)
              · have hn3 : p.2.2.1 < 3 := (nI_ltI (a := p.2.2.1) (b := 3) (by omega) (by decide)).mp c_76
                rw [if_pos ⟨⟨c_41, c_47⟩, ⟨c_1, c_6⟩, ⟨c_18, c_23⟩⟩, if_pos hn3]
                refine mj_aload_n d_RF_channel_87 rfl ?_
                refine mj_get ok_RF (k := 4) (by decide) fl_RF_42 d_RF_channel_88 o0 rfl ?_
                refine mj_iload_n d_RF_channel_91 rfl ?_
                refine mj_iload_n d_RF_channel_92 rfl ?_
                refine mj_iload_n d_RF_channel_93 rfl ?_
                refine mj_cV (S := []) (S1 := []) (c_Pi_addChannel C.1.1.2.2.1 x y z) d_RF_channel_94 cw_Pi_addChannel ml_RF_57 im_Pi_addChannel se_Pi_addChannel rfl h1 (by decide) rfl (Nat.le_of_ble_eq_true rfl) rfl rfl ?_
                have P1 := C.1.1.2.2.1.up (p' := pi_add p x y z) (pi_add_bd ⟨w1, w2, w3⟩)
                have ea : (pi_add p x y z).2.2.1 = p.2.2.1 + 1 := by unfold pi_add; rw [if_pos hn3]
                have p1 := P1.1
                have z0 := C.1.1.2.2.2.1
                have x0 : (ob_up h pa (pi_add p x y z))[0]? = some _ := (pi_fr17 z0 (by decide)).trans o0
                refine mj_aload_n d_RF_channel_97 rfl ?_
                refine mj_get ok_RF (k := 4) (by decide) fl_RF_42 d_RF_channel_98 x0 rfl ?_
                refine mj_get ok_Pi (k := 2) (by decide) fl_RF_68 d_RF_channel_101 p1 rfl ?_
                exact mj_iret rfl d_RF_channel_104 ⟨by rw [ea], rfl⟩
              · refine mj_throw0 (kc := 0) (ks := 0) (names := ["java/lang/RuntimeException", "java/lang/Exception"]) (ci := 10) rfl rfl (by decide +kernel) en_fit cl_RF_71 in_IS at_IS gw_IS d_RF_channel_79 d_RF_channel_82 d_RF_channel_83 d_RF_channel_86 (by decide) ?_
                rw [if_pos ⟨⟨c_41, c_47⟩, ⟨c_1, c_6⟩, ⟨c_18, c_23⟩⟩, if_neg (fun g => c_76 ((nI_ltI (a := p.2.2.1) (b := 3) (by omega) (by decide)).mpr g))]
                exact ⟨rfl, rfl⟩
