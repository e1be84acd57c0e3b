def sa_num (t b : Int32) : Prop := if t = 0 then ¬ b &&& 31744 = 31744 else if t = 1 then ¬ b &&& 2139095040 = 2139095040 else True
def sa_numb (t b : Int32) : Int32 := if t = 0 then (if b &&& 31744 = 31744 then 0 else 1) else if t = 1 then (if b &&& 2139095040 = 2139095040 then 0 else 1) else 1
set_option maxRecDepth 100000 in
set_option maxHeartbeats 4000000 in
theorem c_Sa_isNumber {h : mj_H} (t b : Int32) : mj_Met M_Sa_isNumber (0, 0, none) 0 0 [.int t, .int b] h (mj_q (some (.int (sa_numb t b))) h) := by
  refine mj_enter (r := 0) rfl rfl (by decide) rfl ?_
  show mj_W M_Sa_isNumber _ _ _ _ 0 [some (.int t), some (.int b)] [] h
  refine mj_iload_n d_Sa_isNumber_0 rfl ?_
  by_cases s_1_0 : t = 0
  · refine mj_lookup (off := 27) (tgt := 28) d_Sa_isNumber_1 (by decide) (by rw [s_1_0]; decide) (by decide) ?_
    refine mj_iload_n d_Sa_isNumber_28 rfl ?_
    refine mj_sipush (v := 31744) d_Sa_isNumber_29 (by decide) ?_
    refine mj_iand d_Sa_isNumber_32 ?_
    refine mj_sipush (v := 31744) d_Sa_isNumber_33 (by decide) ?_
    refine mj_icmp_eq (tgt := 43) d_Sa_isNumber_36 (by decide) (fun c_36 => ?_) (fun c_36 => ?_)
    · refine mj_iconst (v := 0) d_Sa_isNumber_43 (by decide) ?_
      exact mj_zret rfl (by decide) d_Sa_isNumber_44 ⟨by unfold sa_numb; rw [if_pos s_1_0, if_pos c_36], rfl⟩
    · refine mj_iconst (v := 1) d_Sa_isNumber_39 (by decide) ?_
      refine mj_goto (tgt := 44) d_Sa_isNumber_40 (by decide) ?_
      exact mj_zret rfl (by decide) d_Sa_isNumber_44 ⟨by unfold sa_numb; rw [if_pos s_1_0, if_neg c_36], rfl⟩
  by_cases s_1_1 : t = 1
  · refine mj_lookup (off := 44) (tgt := 45) d_Sa_isNumber_1 (by decide) (by rw [s_1_1]; decide) (by decide) ?_
    refine mj_iload_n d_Sa_isNumber_45 rfl ?_
    refine mj_ldc d_Sa_isNumber_46 k_Sa_30 ?_
    refine mj_iand d_Sa_isNumber_48 ?_
    refine mj_ldc d_Sa_isNumber_49 k_Sa_30 ?_
    refine mj_icmp_eq (tgt := 58) d_Sa_isNumber_51 (by decide) (fun c_51 => ?_) (fun c_51 => ?_)
    · refine mj_iconst (v := 0) d_Sa_isNumber_58 (by decide) ?_
      exact mj_zret rfl (by decide) d_Sa_isNumber_59 ⟨by unfold sa_numb; rw [if_neg s_1_0, if_pos s_1_1, if_pos c_51], rfl⟩
    · refine mj_iconst (v := 1) d_Sa_isNumber_54 (by decide) ?_
      refine mj_goto (tgt := 59) d_Sa_isNumber_55 (by decide) ?_
      exact mj_zret rfl (by decide) d_Sa_isNumber_59 ⟨by unfold sa_numb; rw [if_neg s_1_0, if_pos s_1_1, if_neg c_51], rfl⟩
  refine mj_lookup (off := 59) (tgt := 60) d_Sa_isNumber_1 (by decide) (by show Op.lookupswitch.offset [(0, 27), (1, 44)] 59 (t : Int32).toInt = 59; rw [lv_osw s_1_0 (show (0 : Int32).toInt = 0 by decide), lv_osw s_1_1 (show (1 : Int32).toInt = 1 by decide)]; rfl) (by decide) ?_
  refine mj_iconst (v := 1) d_Sa_isNumber_60 (by decide) ?_
  exact mj_zret rfl (by decide) d_Sa_isNumber_61 ⟨by unfold sa_numb; rw [if_neg s_1_0, if_neg s_1_1], rfl⟩
def sa_short (b : Int32) : Int32 := if (b + 128) &&& 2139095040 = 2139095040 then mj_ush b 8 else mj_ush (b + 128) 8
set_option maxRecDepth 100000 in
set_option maxHeartbeats 4000000 in
theorem c_Sa_shorten {h : mj_H} (b : Int32) : mj_Met M_Sa_shorten (1, 21, none) 0 0 [.int b] h (mj_q (some (.int (sa_short b))) h) := by
  refine mj_enter (r := 1) rfl rfl (by decide) rfl ?_
  show mj_W M_Sa_shorten _ _ _ _ 0 [some (.int b), none] [] h
  refine mj_iload_n d_Sa_shorten_0 rfl ?_
  refine mj_sipush (v := 128) d_Sa_shorten_1 (by decide) ?_
  refine mj_iadd d_Sa_shorten_4 ?_
  refine mj_topi (fun v1 e_v1 => ?_)
  refine mj_istore_n (L' := [some (.int b), some (.int v1)]) d_Sa_shorten_5 (by decide) rfl rfl ?_
  refine mj_iconst (v := 1) d_Sa_shorten_6 (by decide) ?_
  refine mj_iload_n d_Sa_shorten_7 rfl ?_
  refine mj_cS (S := []) (S1 := [.int (sa_numb 1 v1)]) (c_Sa_isNumber 1 _) d_Sa_shorten_8 cw_Sa_isNumber ml_Sa_31 st_Sa_isNumber (by decide) rfl (Nat.le_of_ble_eq_true rfl) rfl rfl ?_
  refine mj_if_eq (tgt := 21) d_Sa_shorten_11 (by decide) (fun c_11 => ?_) (fun c_11 => ?_)
  · refine mj_iload_n d_Sa_shorten_21 rfl ?_
    refine mj_bipush (v := 8) d_Sa_shorten_22 (by decide) ?_
    refine mj_iushr d_Sa_shorten_24 rfl ?_
    subst e_v1
    by_cases q : (b + 128) &&& 2139095040 = 2139095040
    · have e9 : sa_numb 1 (b + 128) = 0 := by unfold sa_numb; rw [if_neg (by decide), if_pos rfl, if_pos q]
      exact mj_iret rfl d_Sa_shorten_25 ⟨by unfold sa_short; rw [if_pos q]; rfl, rfl⟩
    · exact absurd c_11 (by unfold sa_numb; rw [if_neg (by decide), if_pos rfl, if_neg q]; decide)
  · refine mj_iload_n d_Sa_shorten_14 rfl ?_
    refine mj_bipush (v := 8) d_Sa_shorten_15 (by decide) ?_
    refine mj_iushr d_Sa_shorten_17 rfl ?_
    refine mj_goto (tgt := 25) d_Sa_shorten_18 (by decide) ?_
    subst e_v1
    by_cases q : (b + 128) &&& 2139095040 = 2139095040
    · have e9 : sa_numb 1 (b + 128) = 0 := by unfold sa_numb; rw [if_neg (by decide), if_pos rfl, if_pos q]
      exact absurd e9 c_11
    · exact mj_iret rfl d_Sa_shorten_25 ⟨by unfold sa_short; rw [if_neg q]; rfl, rfl⟩
def sa_whole (v : Int32) : Int32 := if (0 : Int32) < (if 65535 < v then 65535 else v) then (if 65535 < v then 65535 else v) else 0
set_option maxRecDepth 100000 in
set_option maxHeartbeats 4000000 in
theorem c_Sa_ofWhole {h : mj_H} (v : Int32) : mj_Met M_Sa_ofWhole (1, 21, none) 0 0 [.int v] h (mj_q (some (.int (sa_whole v))) h) := by
  refine mj_enter (r := 0) rfl rfl (by decide) rfl ?_
  show mj_W M_Sa_ofWhole _ _ _ _ 0 [some (.int v)] [] h
  refine mj_iconst (v := 0) d_Sa_ofWhole_0 (by decide) ?_
  refine mj_iload_n d_Sa_ofWhole_1 rfl ?_
  refine mj_ldc d_Sa_ofWhole_2 k_Sa_42 ?_
  refine mj_cS (S := [.int 0]) (S1 := [.int (if 65535 < v then 65535 else v), .int 0]) (c_Ma_min v 65535) d_Sa_ofWhole_4 cw_Ma_min ml_Sa_43 st_Ma_min (by decide) rfl (Nat.le_of_ble_eq_true rfl) rfl rfl ?_
  refine mj_cS (S := []) (S1 := [.int (sa_whole v)]) (c_Ma_max 0 _) d_Sa_ofWhole_7 cw_Ma_max ml_Sa_49 st_Ma_max (by decide) rfl (Nat.le_of_ble_eq_true rfl) rfl rfl ?_
  exact mj_iret rfl d_Sa_ofWhole_10 ⟨rfl, rfl⟩
def pi_new (p : pi_P) (w v : Nat) : pi_P := (w, v, 0, p.2.2.2.1, p.2.2.2.2.1, p.2.2.2.2.2.1, mj_fil 192 0 p.2.2.2.2.2.2 0)
set_option maxRecDepth 100000 in
set_option maxHeartbeats 4000000 in
theorem c_Pi_startAnew {h : mj_H} {a l t s m : Nat} {p : pi_P} (P : Pi h a l t s m p) {w v : Nat} (hw : w ≤ 8) (hv : v ≤ 8) : mj_Met M_Pi_startAnew (1, 23, none) 0 0 [.ref a, .int (nI w), .int (nI v)] h (mj_q none (pi_up h a l t s m (pi_new p w v))) := by
  obtain ⟨h1, h2, h3, h4, h5, ⟨n1, n2, n3, n4, n5, n6⟩, w1, w2, w3⟩ := id P
  refine mj_enter (r := 0) rfl rfl (by decide) rfl ?_
  show mj_W M_Pi_startAnew _ _ _ _ 0 [some (.ref a), some (.int (nI w)), some (.int (nI v))] [] h
  refine mj_aload_n d_Pi_startAnew_0 rfl ?_
  refine mj_iload_n d_Pi_startAnew_1 rfl ?_
  refine mj_put ok_Pi (k := 0) (by decide) fl_Pi_24 rfl (fun _ => rfl) (fun _ => rfl) (Nat.le_of_ble_eq_true rfl) d_Pi_startAnew_2 h1 ?_
  obtain ⟨hh1, e_hh1⟩ : ∃ q_ : mj_H, q_ = h.set a (.inr (4, [.int (nI w), .int (nI p.2.1), .int (nI p.2.2.1), .ref l, .ref t, .ref s, .ref m])) := ⟨_, rfl⟩
  refine mj_hp e_hh1 ?_
  have k2 : hh1[a]? = some (.inr (4, [.int (nI w), .int (nI p.2.1), .int (nI p.2.2.1), .ref l, .ref t, .ref s, .ref m])) := by rw [e_hh1]; exact mj_sS h1
  have k3 := mj_sN (y := .inr (4, [.int (nI w), .int (nI p.2.1), .int (nI p.2.2.1), .ref l, .ref t, .ref s, .ref m])) (mj_ne h1 h2) h2
  rw [← e_hh1] at k3
  have k4 := mj_sN (y := .inr (4, [.int (nI w), .int (nI p.2.1), .int (nI p.2.2.1), .ref l, .ref t, .ref s, .ref m])) (mj_ne h1 h3) h3
  rw [← e_hh1] at k4
  have k5 := mj_sN (y := .inr (4, [.int (nI w), .int (nI p.2.1), .int (nI p.2.2.1), .ref l, .ref t, .ref s, .ref m])) (mj_ne h1 h4) h4
  rw [← e_hh1] at k5
  have k6 := mj_sN (y := .inr (4, [.int (nI w), .int (nI p.2.1), .int (nI p.2.2.1), .ref l, .ref t, .ref s, .ref m])) (mj_ne h1 h5) h5
  rw [← e_hh1] at k6
  refine mj_aload_n d_Pi_startAnew_5 rfl ?_
  refine mj_iload_n d_Pi_startAnew_6 rfl ?_
  refine mj_put ok_Pi (k := 1) (by decide) fl_Pi_28 rfl (fun _ => rfl) (fun _ => rfl) (Nat.le_of_ble_eq_true rfl) d_Pi_startAnew_7 k2 ?_
  obtain ⟨hh7, e_hh7⟩ : ∃ q_ : mj_H, q_ = hh1.set a (.inr (4, [.int (nI w), .int (nI v), .int (nI p.2.2.1), .ref l, .ref t, .ref s, .ref m])) := ⟨_, rfl⟩
  refine mj_hp e_hh7 ?_
  have k8 : hh7[a]? = some (.inr (4, [.int (nI w), .int (nI v), .int (nI p.2.2.1), .ref l, .ref t, .ref s, .ref m])) := by rw [e_hh7]; exact mj_sS k2
  have k9 := mj_sN (y := .inr (4, [.int (nI w), .int (nI v), .int (nI p.2.2.1), .ref l, .ref t, .ref s, .ref m])) (mj_ne h1 h2) k3
  rw [← e_hh7] at k9
  have k10 := mj_sN (y := .inr (4, [.int (nI w), .int (nI v), .int (nI p.2.2.1), .ref l, .ref t, .ref s, .ref m])) (mj_ne h1 h3) k4
  rw [← e_hh7] at k10
  have k11 := mj_sN (y := .inr (4, [.int (nI w), .int (nI v), .int (nI p.2.2.1), .ref l, .ref t, .ref s, .ref m])) (mj_ne h1 h4) k5
  rw [← e_hh7] at k11
  have k12 := mj_sN (y := .inr (4, [.int (nI w), .int (nI v), .int (nI p.2.2.1), .ref l, .ref t, .ref s, .ref m])) (mj_ne h1 h5) k6
  rw [← e_hh7] at k12
  refine mj_aload_n d_Pi_startAnew_10 rfl ?_
  refine mj_iconst (v := 0) d_Pi_startAnew_11 (by decide) ?_
  refine mj_put ok_Pi (k := 2) (by decide) fl_Pi_31 rfl (fun _ => rfl) (fun _ => rfl) (Nat.le_of_ble_eq_true rfl) d_Pi_startAnew_12 k8 ?_
  obtain ⟨hh13, e_hh13⟩ : ∃ q_ : mj_H, q_ = hh7.set a (.inr (4, [.int (nI w), .int (nI v), .int 0, .ref l, .ref t, .ref s, .ref m])) := ⟨_, rfl⟩
  refine mj_hp e_hh13 ?_
  have k14 : hh13[a]? = some (.inr (4, [.int (nI w), .int (nI v), .int 0, .ref l, .ref t, .ref s, .ref m])) := by rw [e_hh13]; exact mj_sS k8
  have k15 := mj_sN (y := .inr (4, [.int (nI w), .int (nI v), .int 0, .ref l, .ref t, .ref s, .ref m])) (mj_ne h1 h2) k9
  rw [← e_hh13] at k15
  have k16 := mj_sN (y := .inr (4, [.int (nI w), .int (nI v), .int 0, .ref l, .ref t, .ref s, .ref m])) (mj_ne h1 h3) k10
  rw [← e_hh13] at k16
  have k17 := mj_sN (y := .inr (4, [.int (nI w), .int (nI v), .int 0, .ref l, .ref t, .ref s, .ref m])) (mj_ne h1 h4) k11
  rw [← e_hh13] at k17
  have k18 := mj_sN (y := .inr (4, [.int (nI w), .int (nI v), .int 0, .ref l, .ref t, .ref s, .ref m])) (mj_ne h1 h5) k12
  rw [← e_hh13] at k18
  refine mj_aload_n d_Pi_startAnew_15 rfl ?_
  refine mj_get ok_Pi (k := 6) (by decide) fl_Pi_21 d_Pi_startAnew_16 k14 rfl ?_
  refine mj_iconst (v := 0) d_Pi_startAnew_19 (by decide) ?_
  refine mj_cS (S := []) (S1 := []) (c_Ar_fill k18 0 (by decide)) d_Pi_startAnew_20 cw_Ar_fill ml_Pi_34 st_Ar_fill (by decide) rfl (Nat.le_of_ble_eq_true rfl) rfl rfl ?_
  refine mj_vret rfl d_Pi_startAnew_23 ⟨rfl, P.to (p' := pi_new p w v) (by rw [List.length_set, e_hh13, List.length_set, e_hh7, List.length_set, e_hh1, List.length_set]) (fun i q _ _ _ q5 => by rw [List.getElem?_set_ne (Ne.symm q5), e_hh13, List.getElem?_set_ne (Ne.symm q), e_hh7, List.getElem?_set_ne (Ne.symm q), e_hh1, List.getElem?_set_ne (Ne.symm q)]) ⟨mj_sN (Ne.symm (mj_ne h1 h5)) k14, mj_sN (Ne.symm n3) k15, mj_sN (Ne.symm n5) k16, mj_sN (Ne.symm n6) k17, mj_sS k18, ⟨n1, n2, n3, n4, n5, n6⟩, hw, hv, Nat.zero_le _⟩⟩
def pi_add (p : pi_P) (x y z : Int32) : pi_P := if p.2.2.1 < 3 then (p.1, p.2.1, p.2.2.1 + 1, upd p.2.2.2.1 p.2.2.1 x, upd p.2.2.2.2.1 p.2.2.1 y, upd p.2.2.2.2.2.1 p.2.2.1 z, p.2.2.2.2.2.2) else p
set_option maxRecDepth 100000 in
set_option maxHeartbeats 4000000 in
theorem c_Pi_addChannel {h : mj_H} {a l t s m : Nat} {p : pi_P} (P : Pi h a l t s m p) (x y z : Int32) : mj_Met M_Pi_addChannel (0, 0, none) 0 0 [.ref a, .int x, .int y, .int z] h (mj_q none (pi_up h a l t s m (pi_add p x y z))) := by
  obtain ⟨h1, h2, h3, h4, h5, ⟨n1, n2, n3, n4, n5, n6⟩, w1, w2, w3⟩ := id P
  refine mj_enter (r := 0) rfl rfl (by decide) rfl ?_
  show mj_W M_Pi_addChannel _ _ _ _ 0 [some (.ref a), some (.int x), some (.int y), some (.int z)] [] h
  refine mj_aload_n d_Pi_addChannel_0 rfl ?_
  refine mj_get ok_Pi (k := 2) (by decide) fl_Pi_31 d_Pi_addChannel_1 h1 rfl ?_
  refine mj_iconst (v := 3) d_Pi_addChannel_4 (by decide) ?_
  refine mj_icmp_ge (tgt := 48) d_Pi_addChannel_5 (by decide) (fun c_5 => ?_) (fun c_5 => ?_)
  · have hge : ¬ p.2.2.1 < 3 := fun q => nI_ge q (by decide) c_5
    exact mj_vret rfl d_Pi_addChannel_48 ⟨rfl, by rw [show pi_add p x y z = p by unfold pi_add; rw [if_neg hge]]; exact P.idn.symm⟩
  · have hlt : p.2.2.1 < 3 := by
      rcases Nat.lt_or_ge p.2.2.1 3 with q | q
      · exact q
      · exact absurd (nI_le q (by omega)) c_5
    refine mj_aload_n d_Pi_addChannel_8 rfl ?_
    refine mj_get ok_Pi (k := 3) (by decide) fl_Pi_9 d_Pi_addChannel_9 h1 rfl ?_
    refine mj_aload_n d_Pi_addChannel_12 rfl ?_
    refine mj_get ok_Pi (k := 2) (by decide) fl_Pi_31 d_Pi_addChannel_13 h1 rfl ?_
    refine mj_iload_n d_Pi_addChannel_16 rfl ?_
    refine mj_iast d_Pi_addChannel_17 h2 (vp_in_nI hlt (by decide)) ?_
    obtain ⟨hh1, e_hh1⟩ : ∃ q_ : mj_H, q_ = h.set l (.inl (3, .inl (upd p.2.2.2.1 ((nI p.2.2.1) : Int32).toNatClampNeg x))) := ⟨_, rfl⟩
    refine mj_hp e_hh1 ?_
    have k2 := mj_sN (y := .inl (3, .inl (upd p.2.2.2.1 ((nI p.2.2.1) : Int32).toNatClampNeg x))) (Ne.symm (mj_ne h1 h2)) h1
    rw [← e_hh1] at k2
    have k3 : hh1[l]? = some (.inl (3, .inl (upd p.2.2.2.1 ((nI p.2.2.1) : Int32).toNatClampNeg x))) := by rw [e_hh1]; exact mj_sS h2
    have k4 := mj_sN (y := .inl (3, .inl (upd p.2.2.2.1 ((nI p.2.2.1) : Int32).toNatClampNeg x))) n1 h3
    rw [← e_hh1] at k4
    have k5 := mj_sN (y := .inl (3, .inl (upd p.2.2.2.1 ((nI p.2.2.1) : Int32).toNatClampNeg x))) n2 h4
    rw [← e_hh1] at k5
    have k6 := mj_sN (y := .inl (3, .inl (upd p.2.2.2.1 ((nI p.2.2.1) : Int32).toNatClampNeg x))) n3 h5
    rw [← e_hh1] at k6
    refine mj_aload_n d_Pi_addChannel_18 rfl ?_
    refine mj_get ok_Pi (k := 4) (by decide) fl_Pi_15 d_Pi_addChannel_19 k2 rfl ?_
    refine mj_aload_n d_Pi_addChannel_22 rfl ?_
    refine mj_get ok_Pi (k := 2) (by decide) fl_Pi_31 d_Pi_addChannel_23 k2 rfl ?_
    refine mj_iload_n d_Pi_addChannel_26 rfl ?_
    refine mj_iast d_Pi_addChannel_27 k4 (vp_in_nI hlt (by decide)) ?_
    obtain ⟨hh7, e_hh7⟩ : ∃ q_ : mj_H, q_ = hh1.set t (.inl (3, .inl (upd p.2.2.2.2.1 ((nI p.2.2.1) : Int32).toNatClampNeg y))) := ⟨_, rfl⟩
    refine mj_hp e_hh7 ?_
    have k8 := mj_sN (y := .inl (3, .inl (upd p.2.2.2.2.1 ((nI p.2.2.1) : Int32).toNatClampNeg y))) (Ne.symm (mj_ne h1 h3)) k2
    rw [← e_hh7] at k8
    have k9 := mj_sN (y := .inl (3, .inl (upd p.2.2.2.2.1 ((nI p.2.2.1) : Int32).toNatClampNeg y))) (Ne.symm n1) k3
    rw [← e_hh7] at k9
    have k10 : hh7[t]? = some (.inl (3, .inl (upd p.2.2.2.2.1 ((nI p.2.2.1) : Int32).toNatClampNeg y))) := by rw [e_hh7]; exact mj_sS k4
    have k11 := mj_sN (y := .inl (3, .inl (upd p.2.2.2.2.1 ((nI p.2.2.1) : Int32).toNatClampNeg y))) n4 k5
    rw [← e_hh7] at k11
    have k12 := mj_sN (y := .inl (3, .inl (upd p.2.2.2.2.1 ((nI p.2.2.1) : Int32).toNatClampNeg y))) n5 k6
    rw [← e_hh7] at k12
    refine mj_aload_n d_Pi_addChannel_28 rfl ?_
    refine mj_get ok_Pi (k := 5) (by decide) fl_Pi_18 d_Pi_addChannel_29 k8 rfl ?_
    refine mj_aload_n d_Pi_addChannel_32 rfl ?_
    refine mj_get ok_Pi (k := 2) (by decide) fl_Pi_31 d_Pi_addChannel_33 k8 rfl ?_
    refine mj_iload_n d_Pi_addChannel_36 rfl ?_
    refine mj_iast d_Pi_addChannel_37 k11 (vp_in_nI hlt (by decide)) ?_
    obtain ⟨hh13, e_hh13⟩ : ∃ q_ : mj_H, q_ = hh7.set s (.inl (3, .inl (upd p.2.2.2.2.2.1 ((nI p.2.2.1) : Int32).toNatClampNeg z))) := ⟨_, rfl⟩
    refine mj_hp e_hh13 ?_
    have k14 := mj_sN (y := .inl (3, .inl (upd p.2.2.2.2.2.1 ((nI p.2.2.1) : Int32).toNatClampNeg z))) (Ne.symm (mj_ne h1 h4)) k8
    rw [← e_hh13] at k14
    have k15 := mj_sN (y := .inl (3, .inl (upd p.2.2.2.2.2.1 ((nI p.2.2.1) : Int32).toNatClampNeg z))) (Ne.symm n2) k9
    rw [← e_hh13] at k15
    have k16 := mj_sN (y := .inl (3, .inl (upd p.2.2.2.2.2.1 ((nI p.2.2.1) : Int32).toNatClampNeg z))) (Ne.symm n4) k10
    rw [← e_hh13] at k16
    have k17 : hh13[s]? = some (.inl (3, .inl (upd p.2.2.2.2.2.1 ((nI p.2.2.1) : Int32).toNatClampNeg z))) := by rw [e_hh13]; exact mj_sS k11
    have k18 := mj_sN (y := .inl (3, .inl (upd p.2.2.2.2.2.1 ((nI p.2.2.1) : Int32).toNatClampNeg z))) n6 k12
    rw [← e_hh13] at k18
    refine mj_aload_n d_Pi_addChannel_38 rfl ?_
    refine mj_dup d_Pi_addChannel_39 rfl ?_
    refine mj_get ok_Pi (k := 2) (by decide) fl_Pi_31 d_Pi_addChannel_40 k14 rfl ?_
    refine mj_iconst (v := 1) d_Pi_addChannel_43 (by decide) ?_
    refine mj_iadd d_Pi_addChannel_44 ?_
    refine mj_topi (fun v19 e_v19 => ?_)
    refine mj_put ok_Pi (k := 2) (by decide) fl_Pi_31 rfl (fun _ => rfl) (fun _ => rfl) (Nat.le_of_ble_eq_true rfl) d_Pi_addChannel_45 k14 ?_
    obtain ⟨hh20, e_hh20⟩ : ∃ q_ : mj_H, q_ = hh13.set a (.inr (4, [.int (nI p.1), .int (nI p.2.1), .int v19, .ref l, .ref t, .ref s, .ref m])) := ⟨_, rfl⟩
    refine mj_hp e_hh20 ?_
    have k21 : hh20[a]? = some (.inr (4, [.int (nI p.1), .int (nI p.2.1), .int v19, .ref l, .ref t, .ref s, .ref m])) := by rw [e_hh20]; exact mj_sS k14
    have k22 := mj_sN (y := .inr (4, [.int (nI p.1), .int (nI p.2.1), .int v19, .ref l, .ref t, .ref s, .ref m])) (mj_ne h1 h2) k15
    rw [← e_hh20] at k22
    have k23 := mj_sN (y := .inr (4, [.int (nI p.1), .int (nI p.2.1), .int v19, .ref l, .ref t, .ref s, .ref m])) (mj_ne h1 h3) k16
    rw [← e_hh20] at k23
    have k24 := mj_sN (y := .inr (4, [.int (nI p.1), .int (nI p.2.1), .int v19, .ref l, .ref t, .ref s, .ref m])) (mj_ne h1 h4) k17
    rw [← e_hh20] at k24
    have k25 := mj_sN (y := .inr (4, [.int (nI p.1), .int (nI p.2.1), .int v19, .ref l, .ref t, .ref s, .ref m])) (mj_ne h1 h5) k18
    rw [← e_hh20] at k25
    rw [nI_1] at e_v19
    rw [show (nI p.2.2.1).toNatClampNeg = p.2.2.1 from nI_clamp (by omega)] at *
    refine mj_vret rfl d_Pi_addChannel_48 ⟨rfl, P.to (p' := pi_add p x y z) (by rw [e_hh20, List.length_set, e_hh13, List.length_set, e_hh7, List.length_set, e_hh1, List.length_set]) (fun i q1 q2 q3 q4 _ => by rw [e_hh20, List.getElem?_set_ne (Ne.symm q1), e_hh13, List.getElem?_set_ne (Ne.symm q4), e_hh7, List.getElem?_set_ne (Ne.symm q3), e_hh1, List.getElem?_set_ne (Ne.symm q2)]) ?_⟩
    rw [show pi_add p x y z = (p.1, p.2.1, p.2.2.1 + 1, upd p.2.2.2.1 p.2.2.1 x, upd p.2.2.2.2.1 p.2.2.1 y, upd p.2.2.2.2.2.1 p.2.2.1 z, p.2.2.2.2.2.2) by unfold pi_add; rw [if_pos hlt]]
    subst e_v19
    exact ⟨k21, k22, k23, k24, k25, ⟨n1, n2, n3, n4, n5, n6⟩, w1, w2, hlt⟩
