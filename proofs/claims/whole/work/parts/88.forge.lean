def rf_cnt (p : pi_P) (x : Int32) : Int32 := if x = 0 then nI p.1 else if x = 1 then nI p.2.1 else if x = 2 then nI p.2.2.1 else if x - x / 10 * 10 < nI p.2.2.1 then pi_fact p (x / 10) (x - x / 10 * 10).toNatClampNeg else 0
set_option maxRecDepth 100000 in
set_option maxHeartbeats 4000000 in
theorem c_RF_count {h : mj_H} {b : by_B} {f : Nat → Int32} {r s q : by_B} {pa pb : Nat} {p p2 : pi_P} {v : Int32} (O : Ob h b f r s q pa pb p p2 v) (x : Int32) : mj_Met M_RF_count (6, 100, none) 1 6 [.ref 0, .int x] h (if ¬ x < 0 ∧ ¬ 50 ≤ x ∧ x - x / 10 * 10 < 3 then mj_q (some (.int (rf_cnt p x))) h else mj_t 9 h) := by
  obtain ⟨o0, B, C, P2, ow, -, ok2, okb, opq⟩ := id O
  obtain ⟨b1, b2, b3, b4⟩ := id B
  obtain ⟨h1, h2, h3, h4, h5, -, w1, w2, w3⟩ := id C.1.1.2.2.1
  refine mj_enter (r := 1) rfl rfl (by decide) rfl ?_
  show mj_W M_RF_count _ _ _ _ 0 [some (.ref 0), some (.int x), none] [] h
  refine mj_iload_n d_RF_count_0 rfl ?_
  refine mj_bipush (v := 10) d_RF_count_1 (by decide) ?_
  refine mj_irem d_RF_count_3 (by decide) ?_
  refine mj_topi (fun v1 e_v1 => ?_)
  refine mj_istore_n (L' := [some (.ref 0), some (.int x), some (.int v1)]) d_RF_count_4 (by decide) rfl rfl ?_
  refine mj_iload_n d_RF_count_5 rfl ?_
  refine mj_if_lt (tgt := 20) d_RF_count_6 (by decide) (fun c_6 => ?_) (fun c_6 => ?_)
  · refine mj_throw0 (kc := 0) (ks := 0) (names := ["java/lang/RuntimeException", "java/lang/Exception"]) (ci := 9) rfl rfl (by decide +kernel) en_fit cl_RF_61 in_IA at_IA gw_IA d_RF_count_20 d_RF_count_23 d_RF_count_24 d_RF_count_27 (by decide) ?_
    rw [if_neg (fun g => g.1 c_6)]
    exact ⟨rfl, rfl⟩
  · refine mj_iload_n d_RF_count_9 rfl ?_
    refine mj_bipush (v := 50) d_RF_count_10 (by decide) ?_
    refine mj_icmp_ge (tgt := 20) d_RF_count_12 (by decide) (fun c_12 => ?_) (fun c_12 => ?_)
    · refine mj_throw0 (kc := 0) (ks := 0) (names := ["java/lang/RuntimeException", "java/lang/Exception"]) (ci := 9) rfl rfl (by decide +kernel) en_fit cl_RF_61 in_IA at_IA gw_IA d_RF_count_20 d_RF_count_23 d_RF_count_24 d_RF_count_27 (by decide) ?_
      rw [if_neg (fun g => g.2.1 c_12)]
      exact ⟨rfl, rfl⟩
    · refine mj_iload_n d_RF_count_15 rfl ?_
      refine mj_iconst (v := 3) d_RF_count_16 (by decide) ?_
      refine mj_icmp_lt (tgt := 28) d_RF_count_17 (by decide) (fun c_17 => ?_) (fun c_17 => ?_)
      · rw [e_v1] at c_17
        rw [if_pos ⟨c_6, c_12, c_17⟩]
        refine mj_iload_n d_RF_count_28 rfl ?_
        by_cases s_29_0 : x = 0
        · refine mj_tableIn (off := 27) (tgt := 56) d_RF_count_29 (by rw [s_29_0]; decide) (by rw [s_29_0]; decide) (by rw [s_29_0]; decide) (by decide) ?_
          refine mj_aload_n d_RF_count_56 rfl ?_
          refine mj_get ok_RF (k := 4) (by decide) fl_RF_42 d_RF_count_57 o0 rfl ?_
          refine mj_get ok_Pi (k := 0) (by decide) fl_RF_140 d_RF_count_60 h1 rfl ?_
          exact mj_iret rfl d_RF_count_63 ⟨by unfold rf_cnt; rw [if_pos s_29_0], rfl⟩
        by_cases s_29_1 : x = 1
        · refine mj_tableIn (off := 35) (tgt := 64) d_RF_count_29 (by rw [s_29_1]; decide) (by rw [s_29_1]; decide) (by rw [s_29_1]; decide) (by decide) ?_
          refine mj_aload_n d_RF_count_64 rfl ?_
          refine mj_get ok_RF (k := 4) (by decide) fl_RF_42 d_RF_count_65 o0 rfl ?_
          refine mj_get ok_Pi (k := 1) (by decide) fl_RF_143 d_RF_count_68 h1 rfl ?_
          exact mj_iret rfl d_RF_count_71 ⟨by unfold rf_cnt; rw [if_neg s_29_0, if_pos s_29_1], rfl⟩
        by_cases s_29_2 : x = 2
        · refine mj_tableIn (off := 43) (tgt := 72) d_RF_count_29 (by rw [s_29_2]; decide) (by rw [s_29_2]; decide) (by rw [s_29_2]; decide) (by decide) ?_
          refine mj_aload_n d_RF_count_72 rfl ?_
          refine mj_get ok_RF (k := 4) (by decide) fl_RF_42 d_RF_count_73 o0 rfl ?_
          refine mj_get ok_Pi (k := 2) (by decide) fl_RF_68 d_RF_count_76 h1 rfl ?_
          exact mj_iret rfl d_RF_count_79 ⟨by unfold rf_cnt; rw [if_neg s_29_0, if_neg s_29_1, if_pos s_29_2], rfl⟩
        have ts_29_0 := lv_neT s_29_0 (show (0 : Int32).toInt = 0 by decide)
        have ts_29_1 := lv_neT s_29_1 (show (1 : Int32).toInt = 1 by decide)
        have ts_29_2 := lv_neT s_29_2 (show (2 : Int32).toInt = 2 by decide)
        refine mj_tableOut (tgt := 80) d_RF_count_29 (by omega) (by decide) ?_
        refine mj_iload_n d_RF_count_80 rfl ?_
        refine mj_aload_n d_RF_count_81 rfl ?_
        refine mj_get ok_RF (k := 4) (by decide) fl_RF_42 d_RF_count_82 o0 rfl ?_
        refine mj_get ok_Pi (k := 2) (by decide) fl_RF_68 d_RF_count_85 h1 rfl ?_
        refine mj_icmp_ge (tgt := 106) d_RF_count_88 (by decide) (fun c_88 => ?_) (fun c_88 => ?_)
        · refine mj_iconst (v := 0) d_RF_count_106 (by decide) ?_
          exact mj_iret rfl d_RF_count_107 ⟨by unfold rf_cnt; rw [if_neg s_29_0, if_neg s_29_1, if_neg s_29_2, if_neg (fun g => by rw [e_v1] at c_88; exact absurd g (mj_nl c_88))], rfl⟩
        · refine mj_aload_n d_RF_count_91 rfl ?_
          refine mj_get ok_RF (k := 4) (by decide) fl_RF_42 d_RF_count_92 o0 rfl ?_
          refine mj_iload_n d_RF_count_95 rfl ?_
          refine mj_bipush (v := 10) d_RF_count_96 (by decide) ?_
          refine mj_idiv d_RF_count_98 (by decide) ?_
          refine mj_iload_n d_RF_count_99 rfl ?_
          obtain ⟨n, hn, en⟩ := nI_of c_6
          have ev : x - x / 10 * 10 = nI (n % 10) := by rw [en]; exact pk_rem hn (by decide) (by decide)
          have hj : n % 10 < 2 ^ 31 := by omega
          have hlt : x - x / 10 * 10 < nI p.2.2.1 := by rw [← e_v1]; exact mj_lt c_88
          rw [e_v1, ev]
          have h3 : n % 10 < 3 := by have h9 := c_17; rw [ev] at h9; exact (nI_ltI (b := 3) hj (by decide)).mp h9
          refine mj_cV (S := []) (S1 := [.int (pi_fact p (x / 10) (n % 10))]) (c_Pi_fact C.1.1.2.2.1 (x / 10) (c := n % 10) h3) d_RF_count_100 cw_Pi_fact ml_RF_146 im_Pi_fact se_Pi_fact rfl h1 (by decide) rfl (Nat.le_of_ble_eq_true rfl) rfl rfl ?_
          refine mj_goto (tgt := 107) d_RF_count_103 (by decide) ?_
          exact mj_iret rfl d_RF_count_107 ⟨by unfold rf_cnt; rw [if_neg s_29_0, if_neg s_29_1, if_neg s_29_2, if_pos hlt, ev, nI_clamp hj], rfl⟩
      · refine mj_throw0 (kc := 0) (ks := 0) (names := ["java/lang/RuntimeException", "java/lang/Exception"]) (ci := 9) rfl rfl (by decide +kernel) en_fit cl_RF_61 in_IA at_IA gw_IA d_RF_count_20 d_RF_count_23 d_RF_count_24 d_RF_count_27 (by decide) ?_
        rw [e_v1] at c_17
        rw [if_neg (fun g => c_17 g.2.2)]
        exact ⟨rfl, rfl⟩
