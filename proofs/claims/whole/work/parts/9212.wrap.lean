theorem vp_in01 : vp_in 0 1 := by unfold vp_in; decide
theorem ca_IA : mj_in (.castable "java/lang/IllegalArgumentException" "java/lang/IllegalArgumentException") := mj_w1 215 rfl rfl
theorem ca_IS : mj_in (.castable "java/lang/IllegalStateException" "java/lang/IllegalStateException") := mj_w2 51 rfl rfl
theorem ca_IO : mj_in (.castable "java/lang/IndexOutOfBoundsException" "java/lang/IndexOutOfBoundsException") := mj_w2 87 rfl rfl
theorem ca_UO : mj_in (.castable "java/lang/UnsupportedOperationException" "java/lang/UnsupportedOperationException") := mj_w3 181 rfl rfl
theorem la_begin_q {h h1 : mj_H} {fs : List Value} {v : Int32} {F : Nat → Int64} (a0 : Int32) (a1 : Int32) (h0 : h[0]? = some (.inr (0, fs))) (ho : h1[40]? = some (.inl (1, .inr (.inl F)))) (hM : mj_Met M_RF_begin (6, 100, none) 1 6 [.ref 0, .int a0, .int a1] h (mj_q (some (.int v)) h1)) : mj_Met M_La_begin (7, 122, none) 1 6 [.ref 0, .int a0, .int a1, .ref 40] h (mj_q (some (.int 0)) (h1.set 40 (.inl (1, .inr (.inl (vp_updL F 0 v.toInt64)))))) := by
  refine mj_enterH (r := 1) rfl rfl (by decide) rfl ?_
  show mj_W M_La_begin _ _ _ _ 0 [some (.ref 0), some (.int a0), some (.int a1), some (.ref 40), none] [] h
  refine mj_aload_n d_La_begin_0 rfl ?_
  refine mj_iconst (v := 0) d_La_begin_1 (by decide) ?_
  refine mj_aload_n d_La_begin_2 rfl ?_
  refine mj_iload_n d_La_begin_3 rfl ?_
  refine mj_iload_n d_La_begin_4 rfl ?_
  refine mj_cV (kc := 0) (ks := 0) (As := [.int a0, .int a1]) (S := [.int 0, .ref 40]) hM d_La_begin_5 cw_RF_begin ml_La_7 im_RF_begin se_RF_begin rfl h0 (by decide) rfl (Nat.le_of_ble_eq_true rfl) rfl rfl ?_
  refine mj_i2l d_La_begin_8 rfl ?_
  refine mj_last d_La_begin_9 ho vp_in01 ?_
  refine mj_goto (tgt := 17) d_La_begin_10 (by decide) ?_
  refine mj_iconst (v := 0) d_La_begin_17 (by decide) ?_
  exact mj_iret rfl d_La_begin_18 ⟨rfl, rfl⟩
theorem la_begin_t1 {h h9 : mj_H} {fs : List Value} (a0 : Int32) (a1 : Int32) (h0 : h[0]? = some (.inr (0, fs))) (hM : mj_Met M_RF_begin (6, 100, none) 1 6 [.ref 0, .int a0, .int a1] h (mj_t 9 h9)) : mj_Met M_La_begin (7, 122, none) 1 6 [.ref 0, .int a0, .int a1, .ref 40] h (mj_q (some (.int 1)) (h9 ++ ([.inr (9, [])] : mj_H))) := by
  refine mj_enterH (r := 1) rfl rfl (by decide) rfl ?_
  show mj_W M_La_begin _ _ _ _ 0 [some (.ref 0), some (.int a0), some (.int a1), some (.ref 40), none] [] h
  refine mj_aload_n d_La_begin_0 rfl ?_
  refine mj_iconst (v := 0) d_La_begin_1 (by decide) ?_
  refine mj_aload_n d_La_begin_2 rfl ?_
  refine mj_iload_n d_La_begin_3 rfl ?_
  refine mj_iload_n d_La_begin_4 rfl ?_
  refine mj_cVX (kc := 0) (ks := 0) (As := [.int a0, .int a1]) (S := [.int 0, .ref 40]) hM d_La_begin_5 cw_RF_begin ml_La_7 im_RF_begin se_RF_begin rfl h0 (by decide) rfl (Nat.le_of_ble_eq_true rfl) rfl (ce := 9) rfl [] (0, 10, 13, 13) [] rfl (fun z hz => nomatch hz) (by decide) (by decide) cl_La_13 ca_IA ?_
  refine mj_astq d_La_begin_13 (by decide) rfl ?_
  refine mj_iconst (v := 1) d_La_begin_15 (by decide) ?_
  exact mj_iret rfl d_La_begin_16 ⟨rfl, rfl⟩
theorem la_channel_q {h h1 : mj_H} {fs : List Value} {v : Int32} {F : Nat → Int64} (a0 : Int32) (a1 : Int32) (a2 : Int32) (h0 : h[0]? = some (.inr (0, fs))) (ho : h1[40]? = some (.inl (1, .inr (.inl F)))) (hM : mj_Met M_RF_channel (6, 100, none) 1 6 [.ref 0, .int a0, .int a1, .int a2] h (mj_q (some (.int v)) h1)) : mj_Met M_La_channel (7, 125, none) 1 6 [.ref 0, .int a0, .int a1, .int a2, .ref 40] h (mj_q (some (.int 0)) (h1.set 40 (.inl (1, .inr (.inl (vp_updL F 0 v.toInt64)))))) := by
  refine mj_enterH (r := 1) rfl rfl (by decide) rfl ?_
  show mj_W M_La_channel _ _ _ _ 0 [some (.ref 0), some (.int a0), some (.int a1), some (.int a2), some (.ref 40), none] [] h
  refine mj_aload d_La_channel_0 rfl ?_
  refine mj_iconst (v := 0) d_La_channel_2 (by decide) ?_
  refine mj_aload_n d_La_channel_3 rfl ?_
  refine mj_iload_n d_La_channel_4 rfl ?_
  refine mj_iload_n d_La_channel_5 rfl ?_
  refine mj_iload_n d_La_channel_6 rfl ?_
  refine mj_cV (kc := 0) (ks := 0) (As := [.int a0, .int a1, .int a2]) (S := [.int 0, .ref 40]) hM d_La_channel_7 cw_RF_channel ml_La_15 im_RF_channel se_RF_channel rfl h0 (by decide) rfl (Nat.le_of_ble_eq_true rfl) rfl rfl ?_
  refine mj_i2l d_La_channel_10 rfl ?_
  refine mj_last d_La_channel_11 ho vp_in01 ?_
  refine mj_goto (tgt := 23) d_La_channel_12 (by decide) ?_
  refine mj_iconst (v := 0) d_La_channel_23 (by decide) ?_
  exact mj_iret rfl d_La_channel_24 ⟨rfl, rfl⟩
theorem la_channel_t1 {h h9 : mj_H} {fs : List Value} (a0 : Int32) (a1 : Int32) (a2 : Int32) (h0 : h[0]? = some (.inr (0, fs))) (hM : mj_Met M_RF_channel (6, 100, none) 1 6 [.ref 0, .int a0, .int a1, .int a2] h (mj_t 9 h9)) : mj_Met M_La_channel (7, 125, none) 1 6 [.ref 0, .int a0, .int a1, .int a2, .ref 40] h (mj_q (some (.int 1)) (h9 ++ ([.inr (9, [])] : mj_H))) := by
  refine mj_enterH (r := 1) rfl rfl (by decide) rfl ?_
  show mj_W M_La_channel _ _ _ _ 0 [some (.ref 0), some (.int a0), some (.int a1), some (.int a2), some (.ref 40), none] [] h
  refine mj_aload d_La_channel_0 rfl ?_
  refine mj_iconst (v := 0) d_La_channel_2 (by decide) ?_
  refine mj_aload_n d_La_channel_3 rfl ?_
  refine mj_iload_n d_La_channel_4 rfl ?_
  refine mj_iload_n d_La_channel_5 rfl ?_
  refine mj_iload_n d_La_channel_6 rfl ?_
  refine mj_cVX (kc := 0) (ks := 0) (As := [.int a0, .int a1, .int a2]) (S := [.int 0, .ref 40]) hM d_La_channel_7 cw_RF_channel ml_La_15 im_RF_channel se_RF_channel rfl h0 (by decide) rfl (Nat.le_of_ble_eq_true rfl) rfl (ce := 9) rfl [] (0, 12, 15, 13) [(0, 12, 19, 19)] rfl (fun z hz => nomatch hz) (by decide) (by decide) cl_La_13 ca_IA ?_
  refine mj_astq d_La_channel_15 (by decide) rfl ?_
  refine mj_iconst (v := 1) d_La_channel_17 (by decide) ?_
  exact mj_iret rfl d_La_channel_18 ⟨rfl, rfl⟩
theorem la_channel_t2 {h h9 : mj_H} {fs : List Value} (a0 : Int32) (a1 : Int32) (a2 : Int32) (h0 : h[0]? = some (.inr (0, fs))) (hM : mj_Met M_RF_channel (6, 100, none) 1 6 [.ref 0, .int a0, .int a1, .int a2] h (mj_t 10 h9)) : mj_Met M_La_channel (7, 125, none) 1 6 [.ref 0, .int a0, .int a1, .int a2, .ref 40] h (mj_q (some (.int 2)) (h9 ++ ([.inr (10, [])] : mj_H))) := by
  refine mj_enterH (r := 1) rfl rfl (by decide) rfl ?_
  show mj_W M_La_channel _ _ _ _ 0 [some (.ref 0), some (.int a0), some (.int a1), some (.int a2), some (.ref 40), none] [] h
  refine mj_aload d_La_channel_0 rfl ?_
  refine mj_iconst (v := 0) d_La_channel_2 (by decide) ?_
  refine mj_aload_n d_La_channel_3 rfl ?_
  refine mj_iload_n d_La_channel_4 rfl ?_
  refine mj_iload_n d_La_channel_5 rfl ?_
  refine mj_iload_n d_La_channel_6 rfl ?_
  refine mj_cVX (kc := 0) (ks := 0) (As := [.int a0, .int a1, .int a2]) (S := [.int 0, .ref 40]) hM d_La_channel_7 cw_RF_channel ml_La_15 im_RF_channel se_RF_channel rfl h0 (by decide) rfl (Nat.le_of_ble_eq_true rfl) rfl (ce := 10) rfl [(0, 12, 15, 13)] (0, 12, 19, 19) [] rfl (fun z hz => by rw [List.mem_singleton.mp hz]; exact ⟨by decide, by decide, cl_La_13⟩) (by decide) (by decide) cl_La_19 ca_IS ?_
  refine mj_astq d_La_channel_19 (by decide) rfl ?_
  refine mj_iconst (v := 2) d_La_channel_21 (by decide) ?_
  exact mj_iret rfl d_La_channel_22 ⟨rfl, rfl⟩
theorem la_set_q {h h1 : mj_H} {fs : List Value} {v : UInt64} {F : Nat → UInt64} (a0 : Int32) (a1 : Int32) (a2 : Int32) (a3 : UInt64) (h0 : h[0]? = some (.inr (0, fs))) (ho : h1[41]? = some (.inl (1, .inr (.inr (.inr (.inl F)))))) (hM : mj_Met M_RF_set (6, 100, none) 1 6 [.ref 0, .int a0, .int a1, .int a2, .double a3] h (mj_q (some (.double v)) h1)) : mj_Met M_La_set (7, 125, none) 1 6 [.ref 0, .int a0, .int a1, .int a2, .double a3, .ref 41] h (mj_q (some (.int 0)) (h1.set 41 (.inl (1, .inr (.inr (.inr (.inl (vf_upd F 0 v)))))))) := by
  refine mj_enterH (r := 1) rfl rfl (by decide) rfl ?_
  show mj_W M_La_set _ _ _ _ 0 [some (.ref 0), some (.int a0), some (.int a1), some (.int a2), some (.double a3), none, some (.ref 41), none] [] h
  refine mj_aload d_La_set_0 rfl ?_
  refine mj_iconst (v := 0) d_La_set_2 (by decide) ?_
  refine mj_aload_n d_La_set_3 rfl ?_
  refine mj_iload_n d_La_set_4 rfl ?_
  refine mj_iload_n d_La_set_5 rfl ?_
  refine mj_iload_n d_La_set_6 rfl ?_
  refine mj_dload d_La_set_7 rfl ?_
  refine mj_cV (kc := 0) (ks := 0) (As := [.int a0, .int a1, .int a2, .double a3]) (S := [.int 0, .ref 41]) hM d_La_set_9 cw_RF_set ml_La_21 im_RF_set se_RF_set rfl h0 (by decide) rfl (Nat.le_of_ble_eq_true rfl) rfl rfl ?_
  refine mj_dast d_La_set_12 ho vp_in01 ?_
  refine mj_goto (tgt := 24) d_La_set_13 (by decide) ?_
  refine mj_iconst (v := 0) d_La_set_24 (by decide) ?_
  exact mj_iret rfl d_La_set_25 ⟨rfl, rfl⟩
theorem la_set_t1 {h h9 : mj_H} {fs : List Value} (a0 : Int32) (a1 : Int32) (a2 : Int32) (a3 : UInt64) (h0 : h[0]? = some (.inr (0, fs))) (hM : mj_Met M_RF_set (6, 100, none) 1 6 [.ref 0, .int a0, .int a1, .int a2, .double a3] h (mj_t 9 h9)) : mj_Met M_La_set (7, 125, none) 1 6 [.ref 0, .int a0, .int a1, .int a2, .double a3, .ref 41] h (mj_q (some (.int 1)) (h9 ++ ([.inr (9, [])] : mj_H))) := by
  refine mj_enterH (r := 1) rfl rfl (by decide) rfl ?_
  show mj_W M_La_set _ _ _ _ 0 [some (.ref 0), some (.int a0), some (.int a1), some (.int a2), some (.double a3), none, some (.ref 41), none] [] h
  refine mj_aload d_La_set_0 rfl ?_
  refine mj_iconst (v := 0) d_La_set_2 (by decide) ?_
  refine mj_aload_n d_La_set_3 rfl ?_
  refine mj_iload_n d_La_set_4 rfl ?_
  refine mj_iload_n d_La_set_5 rfl ?_
  refine mj_iload_n d_La_set_6 rfl ?_
  refine mj_dload d_La_set_7 rfl ?_
  refine mj_cVX (kc := 0) (ks := 0) (As := [.int a0, .int a1, .int a2, .double a3]) (S := [.int 0, .ref 41]) hM d_La_set_9 cw_RF_set ml_La_21 im_RF_set se_RF_set rfl h0 (by decide) rfl (Nat.le_of_ble_eq_true rfl) rfl (ce := 9) rfl [] (0, 13, 16, 13) [(0, 13, 20, 25)] rfl (fun z hz => nomatch hz) (by decide) (by decide) cl_La_13 ca_IA ?_
  refine mj_astq d_La_set_16 (by decide) rfl ?_
  refine mj_iconst (v := 1) d_La_set_18 (by decide) ?_
  exact mj_iret rfl d_La_set_19 ⟨rfl, rfl⟩
theorem la_set_t2 {h h9 : mj_H} {fs : List Value} (a0 : Int32) (a1 : Int32) (a2 : Int32) (a3 : UInt64) (h0 : h[0]? = some (.inr (0, fs))) (hM : mj_Met M_RF_set (6, 100, none) 1 6 [.ref 0, .int a0, .int a1, .int a2, .double a3] h (mj_t 11 h9)) : mj_Met M_La_set (7, 125, none) 1 6 [.ref 0, .int a0, .int a1, .int a2, .double a3, .ref 41] h (mj_q (some (.int 2)) (h9 ++ ([.inr (11, [])] : mj_H))) := by
  refine mj_enterH (r := 1) rfl rfl (by decide) rfl ?_
  show mj_W M_La_set _ _ _ _ 0 [some (.ref 0), some (.int a0), some (.int a1), some (.int a2), some (.double a3), none, some (.ref 41), none] [] h
  refine mj_aload d_La_set_0 rfl ?_
  refine mj_iconst (v := 0) d_La_set_2 (by decide) ?_
  refine mj_aload_n d_La_set_3 rfl ?_
  refine mj_iload_n d_La_set_4 rfl ?_
  refine mj_iload_n d_La_set_5 rfl ?_
  refine mj_iload_n d_La_set_6 rfl ?_
  refine mj_dload d_La_set_7 rfl ?_
  refine mj_cVX (kc := 0) (ks := 0) (As := [.int a0, .int a1, .int a2, .double a3]) (S := [.int 0, .ref 41]) hM d_La_set_9 cw_RF_set ml_La_21 im_RF_set se_RF_set rfl h0 (by decide) rfl (Nat.le_of_ble_eq_true rfl) rfl (ce := 11) rfl [(0, 13, 16, 13)] (0, 13, 20, 25) [] rfl (fun z hz => by rw [List.mem_singleton.mp hz]; exact ⟨by decide, by decide, cl_La_13⟩) (by decide) (by decide) cl_La_25 ca_IO ?_
  refine mj_astq d_La_set_20 (by decide) rfl ?_
  refine mj_iconst (v := 2) d_La_set_22 (by decide) ?_
  exact mj_iret rfl d_La_set_23 ⟨rfl, rfl⟩
theorem la_get_q {h h1 : mj_H} {fs : List Value} {v : UInt64} {F : Nat → UInt64} (a0 : Int32) (a1 : Int32) (a2 : Int32) (h0 : h[0]? = some (.inr (0, fs))) (ho : h1[41]? = some (.inl (1, .inr (.inr (.inr (.inl F)))))) (hM : mj_Met M_RF_get (6, 100, none) 1 6 [.ref 0, .int a0, .int a1, .int a2] h (mj_q (some (.double v)) h1)) : mj_Met M_La_get (7, 123, none) 1 6 [.ref 0, .int a0, .int a1, .int a2, .ref 41] h (mj_q (some (.int 0)) (h1.set 41 (.inl (1, .inr (.inr (.inr (.inl (vf_upd F 0 v)))))))) := by
  refine mj_enterH (r := 1) rfl rfl (by decide) rfl ?_
  show mj_W M_La_get _ _ _ _ 0 [some (.ref 0), some (.int a0), some (.int a1), some (.int a2), some (.ref 41), none] [] h
  refine mj_aload d_La_get_0 rfl ?_
  refine mj_iconst (v := 0) d_La_get_2 (by decide) ?_
  refine mj_aload_n d_La_get_3 rfl ?_
  refine mj_iload_n d_La_get_4 rfl ?_
  refine mj_iload_n d_La_get_5 rfl ?_
  refine mj_iload_n d_La_get_6 rfl ?_
  refine mj_cV (kc := 0) (ks := 0) (As := [.int a0, .int a1, .int a2]) (S := [.int 0, .ref 41]) hM d_La_get_7 cw_RF_get ml_La_27 im_RF_get se_RF_get rfl h0 (by decide) rfl (Nat.le_of_ble_eq_true rfl) rfl rfl ?_
  refine mj_dast d_La_get_10 ho vp_in01 ?_
  refine mj_goto (tgt := 18) d_La_get_11 (by decide) ?_
  refine mj_iconst (v := 0) d_La_get_18 (by decide) ?_
  exact mj_iret rfl d_La_get_19 ⟨rfl, rfl⟩
theorem la_get_t1 {h h9 : mj_H} {fs : List Value} (a0 : Int32) (a1 : Int32) (a2 : Int32) (h0 : h[0]? = some (.inr (0, fs))) (hM : mj_Met M_RF_get (6, 100, none) 1 6 [.ref 0, .int a0, .int a1, .int a2] h (mj_t 11 h9)) : mj_Met M_La_get (7, 123, none) 1 6 [.ref 0, .int a0, .int a1, .int a2, .ref 41] h (mj_q (some (.int 1)) (h9 ++ ([.inr (11, [])] : mj_H))) := by
  refine mj_enterH (r := 1) rfl rfl (by decide) rfl ?_
  show mj_W M_La_get _ _ _ _ 0 [some (.ref 0), some (.int a0), some (.int a1), some (.int a2), some (.ref 41), none] [] h
  refine mj_aload d_La_get_0 rfl ?_
  refine mj_iconst (v := 0) d_La_get_2 (by decide) ?_
  refine mj_aload_n d_La_get_3 rfl ?_
  refine mj_iload_n d_La_get_4 rfl ?_
  refine mj_iload_n d_La_get_5 rfl ?_
  refine mj_iload_n d_La_get_6 rfl ?_
  refine mj_cVX (kc := 0) (ks := 0) (As := [.int a0, .int a1, .int a2]) (S := [.int 0, .ref 41]) hM d_La_get_7 cw_RF_get ml_La_27 im_RF_get se_RF_get rfl h0 (by decide) rfl (Nat.le_of_ble_eq_true rfl) rfl (ce := 11) rfl [] (0, 11, 14, 25) [] rfl (fun z hz => nomatch hz) (by decide) (by decide) cl_La_25 ca_IO ?_
  refine mj_astq d_La_get_14 (by decide) rfl ?_
  refine mj_iconst (v := 1) d_La_get_16 (by decide) ?_
  exact mj_iret rfl d_La_get_17 ⟨rfl, rfl⟩
theorem la_bits_q {h h1 : mj_H} {fs : List Value} {v : Int32} {F : Nat → Int64} (a0 : Int32) (a1 : Int32) (a2 : Int32) (h0 : h[0]? = some (.inr (0, fs))) (ho : h1[40]? = some (.inl (1, .inr (.inl F)))) (hM : mj_Met M_RF_bits (6, 100, none) 1 6 [.ref 0, .int a0, .int a1, .int a2] h (mj_q (some (.int v)) h1)) : mj_Met M_La_bits (7, 123, none) 1 6 [.ref 0, .int a0, .int a1, .int a2, .ref 40] h (mj_q (some (.int 0)) (h1.set 40 (.inl (1, .inr (.inl (vp_updL F 0 v.toInt64)))))) := by
  refine mj_enterH (r := 1) rfl rfl (by decide) rfl ?_
  show mj_W M_La_bits _ _ _ _ 0 [some (.ref 0), some (.int a0), some (.int a1), some (.int a2), some (.ref 40), none] [] h
  refine mj_aload d_La_bits_0 rfl ?_
  refine mj_iconst (v := 0) d_La_bits_2 (by decide) ?_
  refine mj_aload_n d_La_bits_3 rfl ?_
  refine mj_iload_n d_La_bits_4 rfl ?_
  refine mj_iload_n d_La_bits_5 rfl ?_
  refine mj_iload_n d_La_bits_6 rfl ?_
  refine mj_cV (kc := 0) (ks := 0) (As := [.int a0, .int a1, .int a2]) (S := [.int 0, .ref 40]) hM d_La_bits_7 cw_RF_bits ml_La_31 im_RF_bits se_RF_bits rfl h0 (by decide) rfl (Nat.le_of_ble_eq_true rfl) rfl rfl ?_
  refine mj_i2l d_La_bits_10 rfl ?_
  refine mj_last d_La_bits_11 ho vp_in01 ?_
  refine mj_goto (tgt := 19) d_La_bits_12 (by decide) ?_
  refine mj_iconst (v := 0) d_La_bits_19 (by decide) ?_
  exact mj_iret rfl d_La_bits_20 ⟨rfl, rfl⟩
theorem la_bits_t1 {h h9 : mj_H} {fs : List Value} (a0 : Int32) (a1 : Int32) (a2 : Int32) (h0 : h[0]? = some (.inr (0, fs))) (hM : mj_Met M_RF_bits (6, 100, none) 1 6 [.ref 0, .int a0, .int a1, .int a2] h (mj_t 11 h9)) : mj_Met M_La_bits (7, 123, none) 1 6 [.ref 0, .int a0, .int a1, .int a2, .ref 40] h (mj_q (some (.int 1)) (h9 ++ ([.inr (11, [])] : mj_H))) := by
  refine mj_enterH (r := 1) rfl rfl (by decide) rfl ?_
  show mj_W M_La_bits _ _ _ _ 0 [some (.ref 0), some (.int a0), some (.int a1), some (.int a2), some (.ref 40), none] [] h
  refine mj_aload d_La_bits_0 rfl ?_
  refine mj_iconst (v := 0) d_La_bits_2 (by decide) ?_
  refine mj_aload_n d_La_bits_3 rfl ?_
  refine mj_iload_n d_La_bits_4 rfl ?_
  refine mj_iload_n d_La_bits_5 rfl ?_
  refine mj_iload_n d_La_bits_6 rfl ?_
  refine mj_cVX (kc := 0) (ks := 0) (As := [.int a0, .int a1, .int a2]) (S := [.int 0, .ref 40]) hM d_La_bits_7 cw_RF_bits ml_La_31 im_RF_bits se_RF_bits rfl h0 (by decide) rfl (Nat.le_of_ble_eq_true rfl) rfl (ce := 11) rfl [] (0, 12, 15, 25) [] rfl (fun z hz => nomatch hz) (by decide) (by decide) cl_La_25 ca_IO ?_
  refine mj_astq d_La_bits_15 (by decide) rfl ?_
  refine mj_iconst (v := 1) d_La_bits_17 (by decide) ?_
  exact mj_iret rfl d_La_bits_18 ⟨rfl, rfl⟩
theorem la_encode_q {h h1 : mj_H} {fs : List Value} {v : Int32} {F : Nat → Int64} (a0 : Int32) (h0 : h[0]? = some (.inr (0, fs))) (ho : h1[40]? = some (.inl (1, .inr (.inl F)))) (hM : mj_Met M_RF_encode (6, 156, none) 1 6 [.ref 0, .int a0] h (mj_q (some (.int v)) h1)) : mj_Met M_La_encode (7, 177, none) 1 6 [.ref 0, .int a0, .ref 40] h (mj_q (some (.int 0)) (h1.set 40 (.inl (1, .inr (.inl (vp_updL F 0 v.toInt64)))))) := by
  refine mj_enterH (r := 1) rfl rfl (by decide) rfl ?_
  show mj_W M_La_encode _ _ _ _ 0 [some (.ref 0), some (.int a0), some (.ref 40), none] [] h
  refine mj_aload_n d_La_encode_0 rfl ?_
  refine mj_iconst (v := 0) d_La_encode_1 (by decide) ?_
  refine mj_aload_n d_La_encode_2 rfl ?_
  refine mj_iload_n d_La_encode_3 rfl ?_
  refine mj_cV (kc := 0) (ks := 0) (As := [.int a0]) (S := [.int 0, .ref 40]) hM d_La_encode_4 cw_RF_encode ml_La_34 im_RF_encode se_RF_encode rfl h0 (by decide) rfl (Nat.le_of_ble_eq_true rfl) rfl rfl ?_
  refine mj_i2l d_La_encode_7 rfl ?_
  refine mj_last d_La_encode_8 ho vp_in01 ?_
  refine mj_goto (tgt := 18) d_La_encode_9 (by decide) ?_
  refine mj_iconst (v := 0) d_La_encode_18 (by decide) ?_
  exact mj_iret rfl d_La_encode_19 ⟨rfl, rfl⟩
theorem la_encode_t1 {h h9 : mj_H} {fs : List Value} (a0 : Int32) (h0 : h[0]? = some (.inr (0, fs))) (hM : mj_Met M_RF_encode (6, 156, none) 1 6 [.ref 0, .int a0] h (mj_t 9 h9)) : mj_Met M_La_encode (7, 177, none) 1 6 [.ref 0, .int a0, .ref 40] h (mj_q (some (.int 1)) (h9 ++ ([.inr (9, [])] : mj_H))) := by
  refine mj_enterH (r := 1) rfl rfl (by decide) rfl ?_
  show mj_W M_La_encode _ _ _ _ 0 [some (.ref 0), some (.int a0), some (.ref 40), none] [] h
  refine mj_aload_n d_La_encode_0 rfl ?_
  refine mj_iconst (v := 0) d_La_encode_1 (by decide) ?_
  refine mj_aload_n d_La_encode_2 rfl ?_
  refine mj_iload_n d_La_encode_3 rfl ?_
  refine mj_cVX (kc := 0) (ks := 0) (As := [.int a0]) (S := [.int 0, .ref 40]) hM d_La_encode_4 cw_RF_encode ml_La_34 im_RF_encode se_RF_encode rfl h0 (by decide) rfl (Nat.le_of_ble_eq_true rfl) rfl (ce := 9) rfl [] (0, 9, 12, 13) [(0, 9, 15, 19)] rfl (fun z hz => nomatch hz) (by decide) (by decide) cl_La_13 ca_IA ?_
  refine mj_astq_n d_La_encode_12 (by decide) rfl ?_
  refine mj_iconst (v := 1) d_La_encode_13 (by decide) ?_
  exact mj_iret rfl d_La_encode_14 ⟨rfl, rfl⟩
theorem la_encode_t2 {h h9 : mj_H} {fs : List Value} (a0 : Int32) (h0 : h[0]? = some (.inr (0, fs))) (hM : mj_Met M_RF_encode (6, 156, none) 1 6 [.ref 0, .int a0] h (mj_t 10 h9)) : mj_Met M_La_encode (7, 177, none) 1 6 [.ref 0, .int a0, .ref 40] h (mj_q (some (.int 2)) (h9 ++ ([.inr (10, [])] : mj_H))) := by
  refine mj_enterH (r := 1) rfl rfl (by decide) rfl ?_
  show mj_W M_La_encode _ _ _ _ 0 [some (.ref 0), some (.int a0), some (.ref 40), none] [] h
  refine mj_aload_n d_La_encode_0 rfl ?_
  refine mj_iconst (v := 0) d_La_encode_1 (by decide) ?_
  refine mj_aload_n d_La_encode_2 rfl ?_
  refine mj_iload_n d_La_encode_3 rfl ?_
  refine mj_cVX (kc := 0) (ks := 0) (As := [.int a0]) (S := [.int 0, .ref 40]) hM d_La_encode_4 cw_RF_encode ml_La_34 im_RF_encode se_RF_encode rfl h0 (by decide) rfl (Nat.le_of_ble_eq_true rfl) rfl (ce := 10) rfl [(0, 9, 12, 13)] (0, 9, 15, 19) [] rfl (fun z hz => by rw [List.mem_singleton.mp hz]; exact ⟨by decide, by decide, cl_La_13⟩) (by decide) (by decide) cl_La_19 ca_IS ?_
  refine mj_astq_n d_La_encode_15 (by decide) rfl ?_
  refine mj_iconst (v := 2) d_La_encode_16 (by decide) ?_
  exact mj_iret rfl d_La_encode_17 ⟨rfl, rfl⟩
theorem la_decode_q {h h1 : mj_H} {fs : List Value} {v : Int32} {F : Nat → Int64} (h0 : h[0]? = some (.inr (0, fs))) (ho : h1[40]? = some (.inl (1, .inr (.inl F)))) (hM : mj_Met M_RF_decode (7, 181, none) 1 6 [.ref 0] h (mj_q (some (.int v)) h1)) : mj_Met M_La_decode (8, 203, none) 1 6 [.ref 0, .ref 40] h (mj_q (some (.int 0)) (h1.set 40 (.inl (1, .inr (.inl (vp_updL F 0 v.toInt64)))))) := by
  refine mj_enterH (r := 1) rfl rfl (by decide) rfl ?_
  show mj_W M_La_decode _ _ _ _ 0 [some (.ref 0), some (.ref 40), none] [] h
  refine mj_aload_n d_La_decode_0 rfl ?_
  refine mj_iconst (v := 0) d_La_decode_1 (by decide) ?_
  refine mj_aload_n d_La_decode_2 rfl ?_
  refine mj_cV (kc := 0) (ks := 0) (As := []) (S := [.int 0, .ref 40]) hM d_La_decode_3 cw_RF_decode ml_La_38 im_RF_decode se_RF_decode rfl h0 (by decide) rfl (Nat.le_of_ble_eq_true rfl) rfl rfl ?_
  refine mj_i2l d_La_decode_6 rfl ?_
  refine mj_last d_La_decode_7 ho vp_in01 ?_
  refine mj_goto (tgt := 17) d_La_decode_8 (by decide) ?_
  refine mj_iconst (v := 0) d_La_decode_17 (by decide) ?_
  exact mj_iret rfl d_La_decode_18 ⟨rfl, rfl⟩
theorem la_decode_t1 {h h9 : mj_H} {fs : List Value} (h0 : h[0]? = some (.inr (0, fs))) (hM : mj_Met M_RF_decode (7, 181, none) 1 6 [.ref 0] h (mj_t 9 h9)) : mj_Met M_La_decode (8, 203, none) 1 6 [.ref 0, .ref 40] h (mj_q (some (.int 1)) (h9 ++ ([.inr (9, [])] : mj_H))) := by
  refine mj_enterH (r := 1) rfl rfl (by decide) rfl ?_
  show mj_W M_La_decode _ _ _ _ 0 [some (.ref 0), some (.ref 40), none] [] h
  refine mj_aload_n d_La_decode_0 rfl ?_
  refine mj_iconst (v := 0) d_La_decode_1 (by decide) ?_
  refine mj_aload_n d_La_decode_2 rfl ?_
  refine mj_cVX (kc := 0) (ks := 0) (As := []) (S := [.int 0, .ref 40]) hM d_La_decode_3 cw_RF_decode ml_La_38 im_RF_decode se_RF_decode rfl h0 (by decide) rfl (Nat.le_of_ble_eq_true rfl) rfl (ce := 9) rfl [] (0, 8, 11, 13) [(0, 8, 14, 42)] rfl (fun z hz => nomatch hz) (by decide) (by decide) cl_La_13 ca_IA ?_
  refine mj_astq_n d_La_decode_11 (by decide) rfl ?_
  refine mj_iconst (v := 1) d_La_decode_12 (by decide) ?_
  exact mj_iret rfl d_La_decode_13 ⟨rfl, rfl⟩
theorem la_decode_t2 {h h9 : mj_H} {fs : List Value} (h0 : h[0]? = some (.inr (0, fs))) (hM : mj_Met M_RF_decode (7, 181, none) 1 6 [.ref 0] h (mj_t 12 h9)) : mj_Met M_La_decode (8, 203, none) 1 6 [.ref 0, .ref 40] h (mj_q (some (.int 2)) (h9 ++ ([.inr (12, [])] : mj_H))) := by
  refine mj_enterH (r := 1) rfl rfl (by decide) rfl ?_
  show mj_W M_La_decode _ _ _ _ 0 [some (.ref 0), some (.ref 40), none] [] h
  refine mj_aload_n d_La_decode_0 rfl ?_
  refine mj_iconst (v := 0) d_La_decode_1 (by decide) ?_
  refine mj_aload_n d_La_decode_2 rfl ?_
  refine mj_cVX (kc := 0) (ks := 0) (As := []) (S := [.int 0, .ref 40]) hM d_La_decode_3 cw_RF_decode ml_La_38 im_RF_decode se_RF_decode rfl h0 (by decide) rfl (Nat.le_of_ble_eq_true rfl) rfl (ce := 12) rfl [(0, 8, 11, 13)] (0, 8, 14, 42) [] rfl (fun z hz => by rw [List.mem_singleton.mp hz]; exact ⟨by decide, by decide, cl_La_13⟩) (by decide) (by decide) cl_La_42 ca_UO ?_
  refine mj_astq_n d_La_decode_14 (by decide) rfl ?_
  refine mj_iconst (v := 2) d_La_decode_15 (by decide) ?_
  exact mj_iret rfl d_La_decode_16 ⟨rfl, rfl⟩
theorem la_file_q {h h1 : mj_H} {fs : List Value} {v : Int32} {F : Nat → Int64} (a0 : Int32) (h0 : h[0]? = some (.inr (0, fs))) (ho : h1[40]? = some (.inl (1, .inr (.inl F)))) (hM : mj_Met M_RF_file (6, 100, none) 1 6 [.ref 0, .int a0] h (mj_q (some (.int v)) h1)) : mj_Met M_La_file (7, 121, none) 1 6 [.ref 0, .int a0, .ref 40] h (mj_q (some (.int 0)) (h1.set 40 (.inl (1, .inr (.inl (vp_updL F 0 v.toInt64)))))) := by
  refine mj_enterH (r := 1) rfl rfl (by decide) rfl ?_
  show mj_W M_La_file _ _ _ _ 0 [some (.ref 0), some (.int a0), some (.ref 40), none] [] h
  refine mj_aload_n d_La_file_0 rfl ?_
  refine mj_iconst (v := 0) d_La_file_1 (by decide) ?_
  refine mj_aload_n d_La_file_2 rfl ?_
  refine mj_iload_n d_La_file_3 rfl ?_
  refine mj_cV (kc := 0) (ks := 0) (As := [.int a0]) (S := [.int 0, .ref 40]) hM d_La_file_4 cw_RF_file ml_La_44 im_RF_file se_RF_file rfl h0 (by decide) rfl (Nat.le_of_ble_eq_true rfl) rfl rfl ?_
  refine mj_i2l d_La_file_7 rfl ?_
  refine mj_last d_La_file_8 ho vp_in01 ?_
  refine mj_goto (tgt := 15) d_La_file_9 (by decide) ?_
  refine mj_iconst (v := 0) d_La_file_15 (by decide) ?_
  exact mj_iret rfl d_La_file_16 ⟨rfl, rfl⟩
theorem la_file_t1 {h h9 : mj_H} {fs : List Value} (a0 : Int32) (h0 : h[0]? = some (.inr (0, fs))) (hM : mj_Met M_RF_file (6, 100, none) 1 6 [.ref 0, .int a0] h (mj_t 11 h9)) : mj_Met M_La_file (7, 121, none) 1 6 [.ref 0, .int a0, .ref 40] h (mj_q (some (.int 1)) (h9 ++ ([.inr (11, [])] : mj_H))) := by
  refine mj_enterH (r := 1) rfl rfl (by decide) rfl ?_
  show mj_W M_La_file _ _ _ _ 0 [some (.ref 0), some (.int a0), some (.ref 40), none] [] h
  refine mj_aload_n d_La_file_0 rfl ?_
  refine mj_iconst (v := 0) d_La_file_1 (by decide) ?_
  refine mj_aload_n d_La_file_2 rfl ?_
  refine mj_iload_n d_La_file_3 rfl ?_
  refine mj_cVX (kc := 0) (ks := 0) (As := [.int a0]) (S := [.int 0, .ref 40]) hM d_La_file_4 cw_RF_file ml_La_44 im_RF_file se_RF_file rfl h0 (by decide) rfl (Nat.le_of_ble_eq_true rfl) rfl (ce := 11) rfl [] (0, 9, 12, 25) [] rfl (fun z hz => nomatch hz) (by decide) (by decide) cl_La_25 ca_IO ?_
  refine mj_astq_n d_La_file_12 (by decide) rfl ?_
  refine mj_iconst (v := 1) d_La_file_13 (by decide) ?_
  exact mj_iret rfl d_La_file_14 ⟨rfl, rfl⟩
theorem la_patch_q {h h1 : mj_H} {fs : List Value} {v : Int32} {F : Nat → Int64} (a0 : Int32) (a1 : Int32) (h0 : h[0]? = some (.inr (0, fs))) (ho : h1[40]? = some (.inl (1, .inr (.inl F)))) (hM : mj_Met M_RF_patch (6, 100, none) 1 6 [.ref 0, .int a0, .int a1] h (mj_q (some (.int v)) h1)) : mj_Met M_La_patch (7, 123, none) 1 6 [.ref 0, .int a0, .int a1, .ref 40] h (mj_q (some (.int 0)) (h1.set 40 (.inl (1, .inr (.inl (vp_updL F 0 v.toInt64)))))) := by
  refine mj_enterH (r := 1) rfl rfl (by decide) rfl ?_
  show mj_W M_La_patch _ _ _ _ 0 [some (.ref 0), some (.int a0), some (.int a1), some (.ref 40), none] [] h
  refine mj_aload_n d_La_patch_0 rfl ?_
  refine mj_iconst (v := 0) d_La_patch_1 (by decide) ?_
  refine mj_aload_n d_La_patch_2 rfl ?_
  refine mj_iload_n d_La_patch_3 rfl ?_
  refine mj_iload_n d_La_patch_4 rfl ?_
  refine mj_cV (kc := 0) (ks := 0) (As := [.int a0, .int a1]) (S := [.int 0, .ref 40]) hM d_La_patch_5 cw_RF_patch ml_La_47 im_RF_patch se_RF_patch rfl h0 (by decide) rfl (Nat.le_of_ble_eq_true rfl) rfl rfl ?_
  refine mj_i2l d_La_patch_8 rfl ?_
  refine mj_last d_La_patch_9 ho vp_in01 ?_
  refine mj_goto (tgt := 21) d_La_patch_10 (by decide) ?_
  refine mj_iconst (v := 0) d_La_patch_21 (by decide) ?_
  exact mj_iret rfl d_La_patch_22 ⟨rfl, rfl⟩
theorem la_patch_t1 {h h9 : mj_H} {fs : List Value} (a0 : Int32) (a1 : Int32) (h0 : h[0]? = some (.inr (0, fs))) (hM : mj_Met M_RF_patch (6, 100, none) 1 6 [.ref 0, .int a0, .int a1] h (mj_t 9 h9)) : mj_Met M_La_patch (7, 123, none) 1 6 [.ref 0, .int a0, .int a1, .ref 40] h (mj_q (some (.int 1)) (h9 ++ ([.inr (9, [])] : mj_H))) := by
  refine mj_enterH (r := 1) rfl rfl (by decide) rfl ?_
  show mj_W M_La_patch _ _ _ _ 0 [some (.ref 0), some (.int a0), some (.int a1), some (.ref 40), none] [] h
  refine mj_aload_n d_La_patch_0 rfl ?_
  refine mj_iconst (v := 0) d_La_patch_1 (by decide) ?_
  refine mj_aload_n d_La_patch_2 rfl ?_
  refine mj_iload_n d_La_patch_3 rfl ?_
  refine mj_iload_n d_La_patch_4 rfl ?_
  refine mj_cVX (kc := 0) (ks := 0) (As := [.int a0, .int a1]) (S := [.int 0, .ref 40]) hM d_La_patch_5 cw_RF_patch ml_La_47 im_RF_patch se_RF_patch rfl h0 (by decide) rfl (Nat.le_of_ble_eq_true rfl) rfl (ce := 9) rfl [] (0, 10, 13, 13) [(0, 10, 17, 25)] rfl (fun z hz => nomatch hz) (by decide) (by decide) cl_La_13 ca_IA ?_
  refine mj_astq d_La_patch_13 (by decide) rfl ?_
  refine mj_iconst (v := 1) d_La_patch_15 (by decide) ?_
  exact mj_iret rfl d_La_patch_16 ⟨rfl, rfl⟩
theorem la_patch_t2 {h h9 : mj_H} {fs : List Value} (a0 : Int32) (a1 : Int32) (h0 : h[0]? = some (.inr (0, fs))) (hM : mj_Met M_RF_patch (6, 100, none) 1 6 [.ref 0, .int a0, .int a1] h (mj_t 11 h9)) : mj_Met M_La_patch (7, 123, none) 1 6 [.ref 0, .int a0, .int a1, .ref 40] h (mj_q (some (.int 2)) (h9 ++ ([.inr (11, [])] : mj_H))) := by
  refine mj_enterH (r := 1) rfl rfl (by decide) rfl ?_
  show mj_W M_La_patch _ _ _ _ 0 [some (.ref 0), some (.int a0), some (.int a1), some (.ref 40), none] [] h
  refine mj_aload_n d_La_patch_0 rfl ?_
  refine mj_iconst (v := 0) d_La_patch_1 (by decide) ?_
  refine mj_aload_n d_La_patch_2 rfl ?_
  refine mj_iload_n d_La_patch_3 rfl ?_
  refine mj_iload_n d_La_patch_4 rfl ?_
  refine mj_cVX (kc := 0) (ks := 0) (As := [.int a0, .int a1]) (S := [.int 0, .ref 40]) hM d_La_patch_5 cw_RF_patch ml_La_47 im_RF_patch se_RF_patch rfl h0 (by decide) rfl (Nat.le_of_ble_eq_true rfl) rfl (ce := 11) rfl [(0, 10, 13, 13)] (0, 10, 17, 25) [] rfl (fun z hz => by rw [List.mem_singleton.mp hz]; exact ⟨by decide, by decide, cl_La_13⟩) (by decide) (by decide) cl_La_25 ca_IO ?_
  refine mj_astq d_La_patch_17 (by decide) rfl ?_
  refine mj_iconst (v := 2) d_La_patch_19 (by decide) ?_
  exact mj_iret rfl d_La_patch_20 ⟨rfl, rfl⟩
theorem la_cut_q {h h1 : mj_H} {fs : List Value} {v : Int32} {F : Nat → Int64} (a0 : Int32) (h0 : h[0]? = some (.inr (0, fs))) (ho : h1[40]? = some (.inl (1, .inr (.inl F)))) (hM : mj_Met M_RF_cut (6, 100, none) 1 6 [.ref 0, .int a0] h (mj_q (some (.int v)) h1)) : mj_Met M_La_cut (7, 122, none) 1 6 [.ref 0, .int a0, .ref 40] h (mj_q (some (.int 0)) (h1.set 40 (.inl (1, .inr (.inl (vp_updL F 0 v.toInt64)))))) := by
  refine mj_enterH (r := 1) rfl rfl (by decide) rfl ?_
  show mj_W M_La_cut _ _ _ _ 0 [some (.ref 0), some (.int a0), some (.ref 40), none] [] h
  refine mj_aload_n d_La_cut_0 rfl ?_
  refine mj_iconst (v := 0) d_La_cut_1 (by decide) ?_
  refine mj_aload_n d_La_cut_2 rfl ?_
  refine mj_iload_n d_La_cut_3 rfl ?_
  refine mj_cV (kc := 0) (ks := 0) (As := [.int a0]) (S := [.int 0, .ref 40]) hM d_La_cut_4 cw_RF_cut ml_La_50 im_RF_cut se_RF_cut rfl h0 (by decide) rfl (Nat.le_of_ble_eq_true rfl) rfl rfl ?_
  refine mj_i2l d_La_cut_7 rfl ?_
  refine mj_last d_La_cut_8 ho vp_in01 ?_
  refine mj_goto (tgt := 15) d_La_cut_9 (by decide) ?_
  refine mj_iconst (v := 0) d_La_cut_15 (by decide) ?_
  exact mj_iret rfl d_La_cut_16 ⟨rfl, rfl⟩
theorem la_cut_t1 {h h9 : mj_H} {fs : List Value} (a0 : Int32) (h0 : h[0]? = some (.inr (0, fs))) (hM : mj_Met M_RF_cut (6, 100, none) 1 6 [.ref 0, .int a0] h (mj_t 9 h9)) : mj_Met M_La_cut (7, 122, none) 1 6 [.ref 0, .int a0, .ref 40] h (mj_q (some (.int 1)) (h9 ++ ([.inr (9, [])] : mj_H))) := by
  refine mj_enterH (r := 1) rfl rfl (by decide) rfl ?_
  show mj_W M_La_cut _ _ _ _ 0 [some (.ref 0), some (.int a0), some (.ref 40), none] [] h
  refine mj_aload_n d_La_cut_0 rfl ?_
  refine mj_iconst (v := 0) d_La_cut_1 (by decide) ?_
  refine mj_aload_n d_La_cut_2 rfl ?_
  refine mj_iload_n d_La_cut_3 rfl ?_
  refine mj_cVX (kc := 0) (ks := 0) (As := [.int a0]) (S := [.int 0, .ref 40]) hM d_La_cut_4 cw_RF_cut ml_La_50 im_RF_cut se_RF_cut rfl h0 (by decide) rfl (Nat.le_of_ble_eq_true rfl) rfl (ce := 9) rfl [] (0, 9, 12, 13) [] rfl (fun z hz => nomatch hz) (by decide) (by decide) cl_La_13 ca_IA ?_
  refine mj_astq_n d_La_cut_12 (by decide) rfl ?_
  refine mj_iconst (v := 1) d_La_cut_13 (by decide) ?_
  exact mj_iret rfl d_La_cut_14 ⟨rfl, rfl⟩
theorem la_count_q {h h1 : mj_H} {fs : List Value} {v : Int32} {F : Nat → Int64} (a0 : Int32) (h0 : h[0]? = some (.inr (0, fs))) (ho : h1[40]? = some (.inl (1, .inr (.inl F)))) (hM : mj_Met M_RF_count (6, 100, none) 1 6 [.ref 0, .int a0] h (mj_q (some (.int v)) h1)) : mj_Met M_La_count (7, 122, none) 1 6 [.ref 0, .int a0, .ref 40] h (mj_q (some (.int 0)) (h1.set 40 (.inl (1, .inr (.inl (vp_updL F 0 v.toInt64)))))) := by
  refine mj_enterH (r := 1) rfl rfl (by decide) rfl ?_
  show mj_W M_La_count _ _ _ _ 0 [some (.ref 0), some (.int a0), some (.ref 40), none] [] h
  refine mj_aload_n d_La_count_0 rfl ?_
  refine mj_iconst (v := 0) d_La_count_1 (by decide) ?_
  refine mj_aload_n d_La_count_2 rfl ?_
  refine mj_iload_n d_La_count_3 rfl ?_
  refine mj_cV (kc := 0) (ks := 0) (As := [.int a0]) (S := [.int 0, .ref 40]) hM d_La_count_4 cw_RF_count ml_La_53 im_RF_count se_RF_count rfl h0 (by decide) rfl (Nat.le_of_ble_eq_true rfl) rfl rfl ?_
  refine mj_i2l d_La_count_7 rfl ?_
  refine mj_last d_La_count_8 ho vp_in01 ?_
  refine mj_goto (tgt := 15) d_La_count_9 (by decide) ?_
  refine mj_iconst (v := 0) d_La_count_15 (by decide) ?_
  exact mj_iret rfl d_La_count_16 ⟨rfl, rfl⟩
theorem la_count_t1 {h h9 : mj_H} {fs : List Value} (a0 : Int32) (h0 : h[0]? = some (.inr (0, fs))) (hM : mj_Met M_RF_count (6, 100, none) 1 6 [.ref 0, .int a0] h (mj_t 9 h9)) : mj_Met M_La_count (7, 122, none) 1 6 [.ref 0, .int a0, .ref 40] h (mj_q (some (.int 1)) (h9 ++ ([.inr (9, [])] : mj_H))) := by
  refine mj_enterH (r := 1) rfl rfl (by decide) rfl ?_
  show mj_W M_La_count _ _ _ _ 0 [some (.ref 0), some (.int a0), some (.ref 40), none] [] h
  refine mj_aload_n d_La_count_0 rfl ?_
  refine mj_iconst (v := 0) d_La_count_1 (by decide) ?_
  refine mj_aload_n d_La_count_2 rfl ?_
  refine mj_iload_n d_La_count_3 rfl ?_
  refine mj_cVX (kc := 0) (ks := 0) (As := [.int a0]) (S := [.int 0, .ref 40]) hM d_La_count_4 cw_RF_count ml_La_53 im_RF_count se_RF_count rfl h0 (by decide) rfl (Nat.le_of_ble_eq_true rfl) rfl (ce := 9) rfl [] (0, 9, 12, 13) [] rfl (fun z hz => nomatch hz) (by decide) (by decide) cl_La_13 ca_IA ?_
  refine mj_astq_n d_La_count_12 (by decide) rfl ?_
  refine mj_iconst (v := 1) d_La_count_13 (by decide) ?_
  exact mj_iret rfl d_La_count_14 ⟨rfl, rfl⟩
theorem la_spread_q {h h1 : mj_H} {fs : List Value} {v : UInt64} {F : Nat → UInt64} (a0 : Int32) (a1 : UInt64) (h0 : h[0]? = some (.inr (0, fs))) (ho : h1[41]? = some (.inl (1, .inr (.inr (.inr (.inl F)))))) (hM : mj_Met M_RF_spread (6, 124, none) 1 6 [.ref 0, .int a0, .double a1] h (mj_q (some (.double v)) h1)) : mj_Met M_La_spread (7, 147, none) 1 6 [.ref 0, .int a0, .double a1, .ref 41] h (mj_q (some (.int 0)) (h1.set 41 (.inl (1, .inr (.inr (.inr (.inl (vf_upd F 0 v)))))))) := by
  refine mj_enterH (r := 1) rfl rfl (by decide) rfl ?_
  show mj_W M_La_spread _ _ _ _ 0 [some (.ref 0), some (.int a0), some (.double a1), none, some (.ref 41), none] [] h
  refine mj_aload d_La_spread_0 rfl ?_
  refine mj_iconst (v := 0) d_La_spread_2 (by decide) ?_
  refine mj_aload_n d_La_spread_3 rfl ?_
  refine mj_iload_n d_La_spread_4 rfl ?_
  refine mj_dload_n d_La_spread_5 rfl ?_
  refine mj_cV (kc := 0) (ks := 0) (As := [.int a0, .double a1]) (S := [.int 0, .ref 41]) hM d_La_spread_6 cw_RF_spread ml_La_56 im_RF_spread se_RF_spread rfl h0 (by decide) rfl (Nat.le_of_ble_eq_true rfl) rfl rfl ?_
  refine mj_dast d_La_spread_9 ho vp_in01 ?_
  refine mj_goto (tgt := 21) d_La_spread_10 (by decide) ?_
  refine mj_iconst (v := 0) d_La_spread_21 (by decide) ?_
  exact mj_iret rfl d_La_spread_22 ⟨rfl, rfl⟩
theorem la_spread_t1 {h h9 : mj_H} {fs : List Value} (a0 : Int32) (a1 : UInt64) (h0 : h[0]? = some (.inr (0, fs))) (hM : mj_Met M_RF_spread (6, 124, none) 1 6 [.ref 0, .int a0, .double a1] h (mj_t 9 h9)) : mj_Met M_La_spread (7, 147, none) 1 6 [.ref 0, .int a0, .double a1, .ref 41] h (mj_q (some (.int 1)) (h9 ++ ([.inr (9, [])] : mj_H))) := by
  refine mj_enterH (r := 1) rfl rfl (by decide) rfl ?_
  show mj_W M_La_spread _ _ _ _ 0 [some (.ref 0), some (.int a0), some (.double a1), none, some (.ref 41), none] [] h
  refine mj_aload d_La_spread_0 rfl ?_
  refine mj_iconst (v := 0) d_La_spread_2 (by decide) ?_
  refine mj_aload_n d_La_spread_3 rfl ?_
  refine mj_iload_n d_La_spread_4 rfl ?_
  refine mj_dload_n d_La_spread_5 rfl ?_
  refine mj_cVX (kc := 0) (ks := 0) (As := [.int a0, .double a1]) (S := [.int 0, .ref 41]) hM d_La_spread_6 cw_RF_spread ml_La_56 im_RF_spread se_RF_spread rfl h0 (by decide) rfl (Nat.le_of_ble_eq_true rfl) rfl (ce := 9) rfl [] (0, 10, 13, 13) [(0, 10, 17, 25)] rfl (fun z hz => nomatch hz) (by decide) (by decide) cl_La_13 ca_IA ?_
  refine mj_astq d_La_spread_13 (by decide) rfl ?_
  refine mj_iconst (v := 1) d_La_spread_15 (by decide) ?_
  exact mj_iret rfl d_La_spread_16 ⟨rfl, rfl⟩
theorem la_spread_t2 {h h9 : mj_H} {fs : List Value} (a0 : Int32) (a1 : UInt64) (h0 : h[0]? = some (.inr (0, fs))) (hM : mj_Met M_RF_spread (6, 124, none) 1 6 [.ref 0, .int a0, .double a1] h (mj_t 11 h9)) : mj_Met M_La_spread (7, 147, none) 1 6 [.ref 0, .int a0, .double a1, .ref 41] h (mj_q (some (.int 2)) (h9 ++ ([.inr (11, [])] : mj_H))) := by
  refine mj_enterH (r := 1) rfl rfl (by decide) rfl ?_
  show mj_W M_La_spread _ _ _ _ 0 [some (.ref 0), some (.int a0), some (.double a1), none, some (.ref 41), none] [] h
  refine mj_aload d_La_spread_0 rfl ?_
  refine mj_iconst (v := 0) d_La_spread_2 (by decide) ?_
  refine mj_aload_n d_La_spread_3 rfl ?_
  refine mj_iload_n d_La_spread_4 rfl ?_
  refine mj_dload_n d_La_spread_5 rfl ?_
  refine mj_cVX (kc := 0) (ks := 0) (As := [.int a0, .double a1]) (S := [.int 0, .ref 41]) hM d_La_spread_6 cw_RF_spread ml_La_56 im_RF_spread se_RF_spread rfl h0 (by decide) rfl (Nat.le_of_ble_eq_true rfl) rfl (ce := 11) rfl [(0, 10, 13, 13)] (0, 10, 17, 25) [] rfl (fun z hz => by rw [List.mem_singleton.mp hz]; exact ⟨by decide, by decide, cl_La_13⟩) (by decide) (by decide) cl_La_25 ca_IO ?_
  refine mj_astq d_La_spread_17 (by decide) rfl ?_
  refine mj_iconst (v := 2) d_La_spread_19 (by decide) ?_
  exact mj_iret rfl d_La_spread_20 ⟨rfl, rfl⟩
