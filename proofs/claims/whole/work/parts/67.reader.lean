set_option maxRecDepth 100000 in
set_option maxHeartbeats 4000000 in
theorem c_Re_readChunk {h : mj_H} {b : by_B} {x : rd_X} {f : Nat → Int32} {r s q : by_B} {a l t st m : Nat} {p : pi_P} (R : Rr h b x f r s q a l t st m p) (hb : by_ok b) (hx : x.2.2.2 ≤ b.1) {y : Nat} (hy : y ≤ pi_end p y x.2.2.1) (hk : x.2.2.1 < 4) : mj_Met M_Re_readChunk (5, 129, none) 0 0 [.ref 14, .int (nI y), .ref a, .ref 3] h (mj_q (some (.int (if (rd_ck b y x f r s p).1 = true then 1 else 0))) (rr_up h a l t st m (rd_ck b y x f r s p).2.1 (rd_ck b y x f r s p).2.2.1 (rd_ck b y x f r s p).2.2.2.1 (rd_ck b y x f r s p).2.2.2.2.1 q (rd_ck b y x f r s p).2.2.2.2.2)) := by
  obtain ⟨⟨⟨f1, f2, f3, f4⟩, r0⟩, C⟩ := id R
  have bd : pi_bd p := R.ps.bd
  have hok := R.ps.2.2.2
  have b3 := C.1.1.2.1.2.2.1
  have s3 := C.2.1.2.2.2.1
  have q3 := C.2.2.2.2.1
  have h1 := C.1.1.2.2.1.1
  have q1 := rd_nx_pl b (nI y) (nI y) x hx
  refine mj_enter (r := 4) rfl rfl (by decide) rfl ?_
  show mj_W M_Re_readChunk _ _ _ _ 0 [some (.ref 14), some (.int (nI y)), some (.ref a), some (.ref 3), none, none, none, none] [] h
  refine mj_aload_n d_Re_readChunk_0 rfl ?_
  refine mj_get ok_Re (k := 4) (by decide) fl_Re_24 d_Re_readChunk_1 r0 rfl ?_
  refine mj_istore (L' := [some (.ref 14), some (.int (nI y)), some (.ref a), some (.ref 3), some (.int (nI x.2.2.2)), none, none, none]) d_Re_readChunk_4 (by decide) rfl rfl ?_
  refine mj_aload_n d_Re_readChunk_6 rfl ?_
  refine mj_iload_n d_Re_readChunk_7 rfl ?_
  refine mj_iload_n d_Re_readChunk_8 rfl ?_
  refine mj_cV (S := []) (S1 := [.int (if (rd_nx b (nI y) (nI y) x).1 = true then 1 else 0)]) (c_Re_nextIs R.1 hx (nI y) (nI y)) d_Re_readChunk_9 cw_Re_nextIs ml_Re_68 im_Re_nextIs se_Re_nextIs rfl r0 (by decide) rfl (Nat.le_of_ble_eq_true rfl) rfl rfl ?_
  rw [R.x]
  have R1 : Rr (rr_up h a l t st m (rd_nx b (nI y) (nI y) x).2 f r s q p) b (rd_nx b (nI y) (nI y) x).2 f r s q a l t st m p := R.up b3 s3 q3 bd hok
  have u10 := R1.1.2
  have u11 := R1.1.1.1
  have u12 := R1.1.1.2.1
  have u13 := R1.2.1.1.1
  have u14 := R1.2.1.1.2.2.1.1
  rcases Bool.eq_false_or_eq_true ((rd_nx b (nI y) (nI y) x).1) with g1 | g1
  · rw [show (if (rd_nx b (nI y) (nI y) x).1 = true then (1 : Int32) else 0) = 1 by rw [g1]; rfl]
    refine mj_if_eq (tgt := 23) d_Re_readChunk_12 (by decide) (fun _q => absurd _q (by decide)) (fun _q => ?_)
    refine mj_aload_n d_Re_readChunk_15 rfl ?_
    refine mj_iconst (v := 2) d_Re_readChunk_16 (by decide) ?_
    by_cases l17 : b.1 < (rd_nx b (nI y) (nI y) x).2.2.2.2 + 2
    · refine mj_cV (S := []) (S1 := [.int 1]) (c_Re_lacks1 R1.1 q1.1 (n := 2) (by decide) l17) d_Re_readChunk_17 cw_Re_lacks ml_Re_90 im_Re_lacks se_Re_lacks rfl u10 (by decide) rfl (Nat.le_of_ble_eq_true rfl) rfl rfl ?_
      rw [R1.x, R.uu bd bd]
      refine mj_if_eq (tgt := 25) d_Re_readChunk_20 (by decide) (fun _q => absurd _q (by decide)) (fun _q => ?_)
      have er : rd_ck b y x f r s p = (false, rd_fl (rd_nx b (nI y) (nI y) x).2 (nI b.1), f, r, s, p) := by unfold rd_ck rd_ckA; rw [if_pos g1, if_pos l17]
      refine mj_iconst (v := 0) d_Re_readChunk_23 (by decide) ?_
      exact mj_zret rfl rfl d_Re_readChunk_24 ⟨by rw [er]; rfl, by rw [er]⟩
    · refine mj_cV (S := []) (S1 := [.int 0]) (c_Re_lacks0 R1.1 q1.1 (n := 2) (by decide) l17) d_Re_readChunk_17 cw_Re_lacks ml_Re_90 im_Re_lacks se_Re_lacks rfl u10 (by decide) rfl (Nat.le_of_ble_eq_true rfl) rfl rfl ?_
      refine mj_if_eq (tgt := 25) d_Re_readChunk_20 (by decide) (fun _q => ?_) (fun _q => absurd rfl _q)
      refine mj_aload_n d_Re_readChunk_25 rfl ?_
      refine mj_get ok_Re (k := 3) (by decide) fl_Re_20 d_Re_readChunk_26 u10 rfl ?_
      refine mj_aload_n d_Re_readChunk_29 rfl ?_
      refine mj_get ok_Re (k := 4) (by decide) fl_Re_24 d_Re_readChunk_30 u10 rfl ?_
      have t2 := rd_two hb f3 (pl := (rd_nx b (nI y) (nI y) x).2.2.2.2) (by omega)
      refine mj_cV (S := []) (S1 := [.int (by_two b (nI (rd_nx b (nI y) (nI y) x).2.2.2.2))]) (c_By_twoAt R1.1.1 (nI (rd_nx b (nI y) (nI y) x).2.2.2.2)) d_Re_readChunk_33 cw_By_twoAt ml_Re_93 im_By_twoAt se_By_twoAt rfl u11 (by decide) rfl (Nat.le_of_ble_eq_true rfl) rfl rfl ?_
      rw [t2.1]
      obtain ⟨sz, esz⟩ : ∃ q_ : Nat, q_ = rd_sz b (rd_nx b (nI y) (nI y) x).2.2.2.2 := ⟨_, rfl⟩
      rw [← esz] at t2 ⊢
      refine mj_istore (L' := [some (.ref 14), some (.int (nI y)), some (.ref a), some (.ref 3), some (.int (nI x.2.2.2)), some (.int (nI sz)), none, none]) d_Re_readChunk_36 (by decide) rfl rfl ?_
      refine mj_aload_n d_Re_readChunk_38 rfl ?_
      refine mj_iload_n d_Re_readChunk_39 rfl ?_
      refine mj_aload_n d_Re_readChunk_40 rfl ?_
      refine mj_get ok_Re (k := 2) (by decide) fl_Re_41 d_Re_readChunk_41 u10 rfl ?_
      rw [q1.2]
      refine mj_cV (S := []) (S1 := [.int (nI (pi_raw p y x.2.2.1))]) (c_Pi_rawSize R1.2.1.1.2.2.1 (y := y) (k := x.2.2.1) hy hk) d_Re_readChunk_44 cw_Pi_rawSize ml_Re_99 im_Pi_rawSize se_Pi_rawSize rfl u14 (by decide) rfl (Nat.le_of_ble_eq_true rfl) rfl rfl ?_
      obtain ⟨w, ew⟩ : ∃ q_ : Nat, q_ = pi_raw p y x.2.2.1 := ⟨_, rfl⟩
      rw [← ew]
      have hw : w ≤ 384 := by rw [ew]; exact pi_raw_le _ _ _ bd
      have ek : rd_ck b y x f r s p = rd_ckA b y x.2.2.2 (rd_nx b (nI y) (nI y) x).2 f r s p := by unfold rd_ck; rw [if_pos g1]
      refine mj_istore (L' := [some (.ref 14), some (.int (nI y)), some (.ref a), some (.ref 3), some (.int (nI x.2.2.2)), some (.int (nI sz)), some (.int (nI w)), none]) d_Re_readChunk_47 (by decide) rfl rfl ?_
      refine mj_iload d_Re_readChunk_49 rfl ?_
      refine mj_iload d_Re_readChunk_51 rfl ?_
      refine mj_icmp_gt (tgt := 70) d_Re_readChunk_53 (by decide) (fun c_53 => ?_) (fun c_53 => ?_)
      · have g2 : w < sz ∨ (x.2.2.1 = 0 ∧ sz < w) := Or.inl ((nI_ltI (by omega) (by omega)).mp c_53)
        have er : rd_ck b y x f r s p = (false, rd_fl (rd_nx b (nI y) (nI y) x).2 (nI (rd_nx b (nI y) (nI y) x).2.2.2.2), f, r, s, p) := by rw [ek]; unfold rd_ckA; rw [if_neg l17, q1.2, ← esz, ← ew, if_pos g2]
        refine mj_aload_n d_Re_readChunk_70 rfl ?_
        refine mj_aload_n d_Re_readChunk_71 rfl ?_
        refine mj_get ok_Re (k := 4) (by decide) fl_Re_24 d_Re_readChunk_72 u10 rfl ?_
        refine mj_cV (S := []) (S1 := [.int 0]) (c_Re_failsAt R1.1 (nI (rd_nx b (nI y) (nI y) x).2.2.2.2)) d_Re_readChunk_75 cw_Re_failsAt ml_Re_60 im_Re_failsAt se_Re_failsAt rfl u10 (by decide) rfl (Nat.le_of_ble_eq_true rfl) rfl rfl ?_
        rw [R1.x, R.uu bd bd]
        exact mj_zret rfl rfl d_Re_readChunk_78 ⟨by rw [er]; rfl, by rw [er]⟩
      · refine mj_aload_n d_Re_readChunk_56 rfl ?_
        refine mj_get ok_Re (k := 2) (by decide) fl_Re_41 d_Re_readChunk_57 u10 rfl ?_
        refine mj_if_ne (tgt := 79) d_Re_readChunk_60 (by decide) (fun c_60 => ?_) (fun c_60 => ?_)
        · have hn1 : ¬ w < sz := fun e0 => c_53 ((nI_ltI (by omega) (by omega)).mpr e0)
          have hn2 : ¬ (x.2.2.1 = 0 ∧ sz < w) := fun e0 => c_60 (by rw [q1.2, e0.1]; rfl)
          have g2 : ¬ (w < sz ∨ (x.2.2.1 = 0 ∧ sz < w)) := fun e0 => e0.elim hn1 hn2
          obtain ⟨H1, e_H1⟩ : ∃ q_, q_ = rr_up h a l t st m (rd_nx b (nI y) (nI y) x).2 f r s q p := ⟨_, rfl⟩
          rw [← e_H1] at u10 ⊢
          refine mj_aload_n d_Re_readChunk_79 rfl ?_
          refine mj_dup d_Re_readChunk_80 rfl ?_
          refine mj_get ok_Re (k := 4) (by decide) fl_Re_24 d_Re_readChunk_81 u10 rfl ?_
          refine mj_iconst (v := 2) d_Re_readChunk_84 (by decide) ?_
          refine mj_iadd d_Re_readChunk_85 ?_
          refine mj_topi (fun v1 e_v1 => ?_)
          refine mj_put ok_Re (k := 4) (by decide) fl_Re_24 rfl (fun _ => rfl) (fun _ => rfl) (Nat.le_of_ble_eq_true rfl) d_Re_readChunk_86 u10 ?_
          obtain ⟨hh2, e_hh2⟩ : ∃ q_ : mj_H, q_ = H1.set 14 (.inr (5, [.int (rd_nx b (nI y) (nI y) x).2.1, .int (rd_nx b (nI y) (nI y) x).2.2.1, .int (nI (rd_nx b (nI y) (nI y) x).2.2.2.1), .ref 1, .int v1])) := ⟨_, rfl⟩
          refine mj_hp e_hh2 ?_
          have k3 : hh2[14]? = some (.inr (5, [.int (rd_nx b (nI y) (nI y) x).2.1, .int (rd_nx b (nI y) (nI y) x).2.2.1, .int (nI (rd_nx b (nI y) (nI y) x).2.2.2.1), .ref 1, .int v1])) := by rw [e_hh2]; exact mj_sS u10
          have eh : hh2 = rr_up h a l t st m (rd_go (rd_nx b (nI y) (nI y) x).2 2) f r s q p := by rw [e_hh2, e_v1, e_H1, show nI (rd_nx b (nI y) (nI y) x).2.2.2.2 + 2 = nI ((rd_nx b (nI y) (nI y) x).2.2.2.2 + 2) from nI_add _ 2]; exact PS.pr (x2 := (rd_go (rd_nx b (nI y) (nI y) x).2 2))
          rw [eh]
          have R2 : Rr (rr_up h a l t st m (rd_go (rd_nx b (nI y) (nI y) x).2 2) f r s q p) b (rd_go (rd_nx b (nI y) (nI y) x).2 2) f r s q a l t st m p := R.up b3 s3 q3 bd hok
          have u20 := R2.1.2
          have u21 := R2.1.1.1
          have u22 := R2.1.1.2.1
          have u23 := R2.2.1.1.1
          have u24 := R2.2.1.1.2.2.1.1
          have q2 : (rd_go (rd_nx b (nI y) (nI y) x).2 2).2.2.2 ≤ b.1 := by show (rd_nx b (nI y) (nI y) x).2.2.2.2 + 2 ≤ b.1; omega
          refine mj_aload_n d_Re_readChunk_89 rfl ?_
          refine mj_iload d_Re_readChunk_90 rfl ?_
          by_cases l92 : b.1 < (rd_nx b (nI y) (nI y) x).2.2.2.2 + 2 + sz
          · refine mj_cV (S := []) (S1 := [.int 1]) (c_Re_lacks1 R2.1 q2 (n := sz) (by omega) l92) d_Re_readChunk_92 cw_Re_lacks ml_Re_90 im_Re_lacks se_Re_lacks rfl u20 (by decide) rfl (Nat.le_of_ble_eq_true rfl) rfl rfl ?_
            rw [R2.x, R.uu bd bd]
            refine mj_if_eq (tgt := 100) d_Re_readChunk_95 (by decide) (fun _q => absurd _q (by decide)) (fun _q => ?_)
            have er : rd_ck b y x f r s p = (false, rd_fl (rd_go (rd_nx b (nI y) (nI y) x).2 2) (nI b.1), f, r, s, p) := by rw [ek]; unfold rd_ckA; rw [if_neg l17, q1.2, ← esz, ← ew, if_neg g2, if_pos l92]
            refine mj_iconst (v := 0) d_Re_readChunk_98 (by decide) ?_
            exact mj_zret rfl rfl d_Re_readChunk_99 ⟨by rw [er]; rfl, by rw [er]⟩
          · refine mj_cV (S := []) (S1 := [.int 0]) (c_Re_lacks0 R2.1 q2 (n := sz) (by omega) l92) d_Re_readChunk_92 cw_Re_lacks ml_Re_90 im_Re_lacks se_Re_lacks rfl u20 (by decide) rfl (Nat.le_of_ble_eq_true rfl) rfl rfl ?_
            refine mj_if_eq (tgt := 100) d_Re_readChunk_95 (by decide) (fun _q => ?_) (fun _q => absurd rfl _q)
            refine mj_aload_n d_Re_readChunk_100 rfl ?_
            refine mj_aload_n d_Re_readChunk_101 rfl ?_
            refine mj_get ok_Re (k := 3) (by decide) fl_Re_20 d_Re_readChunk_102 u20 rfl ?_
            refine mj_aload_n d_Re_readChunk_105 rfl ?_
            refine mj_get ok_Re (k := 4) (by decide) fl_Re_24 d_Re_readChunk_106 u20 rfl ?_
            refine mj_aload_n d_Re_readChunk_109 rfl ?_
            refine mj_get ok_Re (k := 4) (by decide) fl_Re_24 d_Re_readChunk_110 u20 rfl ?_
            refine mj_iload d_Re_readChunk_113 rfl ?_
            refine mj_iadd d_Re_readChunk_115 ?_
            refine mj_iload d_Re_readChunk_116 rfl ?_
            rw [nI_add]
            refine mj_cV (S := []) (S1 := [.int (co_rd b (rd_go (rd_nx b (nI y) (nI y) x).2 2).2.2.2 ((rd_go (rd_nx b (nI y) (nI y) x).2 2).2.2.2 + sz) w r s).1]) (c_Co_makeReady R2.2 R2.1.1 (by decide) (by decide) (by decide) (by decide) hb (x := (rd_go (rd_nx b (nI y) (nI y) x).2 2).2.2.2) (e := (rd_go (rd_nx b (nI y) (nI y) x).2 2).2.2.2 + sz) (w := w) (Nat.le_add_right _ _) (by show (rd_nx b (nI y) (nI y) x).2.2.2.2 + 2 + sz ≤ b.1; omega) (by omega) (by omega)) d_Re_readChunk_118 cw_Co_makeReady ml_Re_103 im_Co_makeReady se_Co_makeReady rfl u23 (by decide) rfl (Nat.le_of_ble_eq_true rfl) rfl rfl ?_
            have cl := co_rd_le b (rd_go (rd_nx b (nI y) (nI y) x).2 2).2.2.2 ((rd_go (rd_nx b (nI y) (nI y) x).2 2).2.2.2 + sz) w r s b3 s3
            rw [R2.c, R.uu bd bd]
            have R3 : Rr (rr_up h a l t st m (rd_go (rd_nx b (nI y) (nI y) x).2 2) f (co_rd b (rd_go (rd_nx b (nI y) (nI y) x).2 2).2.2.2 ((rd_go (rd_nx b (nI y) (nI y) x).2 2).2.2.2 + sz) w r s).2.1 (co_rd b (rd_go (rd_nx b (nI y) (nI y) x).2 2).2.2.2 ((rd_go (rd_nx b (nI y) (nI y) x).2 2).2.2.2 + sz) w r s).2.2 q p) b (rd_go (rd_nx b (nI y) (nI y) x).2 2) f (co_rd b (rd_go (rd_nx b (nI y) (nI y) x).2 2).2.2.2 ((rd_go (rd_nx b (nI y) (nI y) x).2 2).2.2.2 + sz) w r s).2.1 (co_rd b (rd_go (rd_nx b (nI y) (nI y) x).2 2).2.2.2 ((rd_go (rd_nx b (nI y) (nI y) x).2 2).2.2.2 + sz) w r s).2.2 q a l t st m p := R.up cl.1 cl.2 q3 bd hok
            have u30 := R3.1.2
            have u31 := R3.1.1.1
            have u32 := R3.1.1.2.1
            have u33 := R3.2.1.1.1
            have u34 := R3.2.1.1.2.2.1.1
            have ek2 : rd_ck b y x f r s p = rd_ckB b y x.2.2.2 sz w (rd_go (rd_nx b (nI y) (nI y) x).2 2) f r s p := by rw [ek]; unfold rd_ckA; rw [if_neg l17, q1.2, ← esz, ← ew, if_neg g2, if_neg l92]
            refine mj_topi (fun v4 e_v4 => ?_)
            refine mj_istore (L' := [some (.ref 14), some (.int (nI y)), some (.ref a), some (.ref 3), some (.int (nI x.2.2.2)), some (.int (nI sz)), some (.int (nI w)), some (.int v4)]) d_Re_readChunk_121 (by decide) rfl rfl ?_
            refine mj_iload d_Re_readChunk_123 rfl ?_
            refine mj_bipush (v := (-2)) d_Re_readChunk_125 (by decide) ?_
            refine mj_icmp_eq (tgt := 137) d_Re_readChunk_127 (by decide) (fun c_127 => ?_) (fun c_127 => ?_)
            · rw [e_v4] at c_127
              have ek3 : rd_ck b y x f r s p = rd_ckC y (rd_go (rd_nx b (nI y) (nI y) x).2 2).2.2.1 x.2.2.2 sz w (rd_go (rd_go (rd_nx b (nI y) (nI y) x).2 2) sz) f (co_rd b (rd_go (rd_nx b (nI y) (nI y) x).2 2).2.2.2 ((rd_go (rd_nx b (nI y) (nI y) x).2 2).2.2.2 + sz) w r s).2.1 (co_rd b (rd_go (rd_nx b (nI y) (nI y) x).2 2).2.2.2 ((rd_go (rd_nx b (nI y) (nI y) x).2 2).2.2.2 + sz) w r s).2.2 p := by rw [ek2]; unfold rd_ckB; rw [if_pos c_127]
              have cu := co_rd_cu (b := b) (x := (rd_go (rd_nx b (nI y) (nI y) x).2 2).2.2.2) (e := (rd_go (rd_nx b (nI y) (nI y) x).2 2).2.2.2 + sz) (w := w) (r := r) (s := s) (by show (rd_nx b (nI y) (nI y) x).2.2.2.2 + 2 + sz < 2 ^ 31; omega) c_127
              obtain ⟨H3, e_H3⟩ : ∃ q_, q_ = rr_up h a l t st m (rd_go (rd_nx b (nI y) (nI y) x).2 2) f (co_rd b (rd_go (rd_nx b (nI y) (nI y) x).2 2).2.2.2 ((rd_go (rd_nx b (nI y) (nI y) x).2 2).2.2.2 + sz) w r s).2.1 (co_rd b (rd_go (rd_nx b (nI y) (nI y) x).2 2).2.2.2 ((rd_go (rd_nx b (nI y) (nI y) x).2 2).2.2.2 + sz) w r s).2.2 q p := ⟨_, rfl⟩
              rw [← e_H3] at u30 ⊢
              refine mj_aload_n d_Re_readChunk_137 rfl ?_
              refine mj_dup d_Re_readChunk_138 rfl ?_
              refine mj_get ok_Re (k := 4) (by decide) fl_Re_24 d_Re_readChunk_139 u30 rfl ?_
              refine mj_iload d_Re_readChunk_142 rfl ?_
              refine mj_iadd d_Re_readChunk_144 ?_
              refine mj_topi (fun v5 e_v5 => ?_)
              refine mj_put ok_Re (k := 4) (by decide) fl_Re_24 rfl (fun _ => rfl) (fun _ => rfl) (Nat.le_of_ble_eq_true rfl) d_Re_readChunk_145 u30 ?_
              obtain ⟨hh6, e_hh6⟩ : ∃ q_ : mj_H, q_ = H3.set 14 (.inr (5, [.int (rd_go (rd_nx b (nI y) (nI y) x).2 2).1, .int (rd_go (rd_nx b (nI y) (nI y) x).2 2).2.1, .int (nI (rd_go (rd_nx b (nI y) (nI y) x).2 2).2.2.1), .ref 1, .int v5])) := ⟨_, rfl⟩
              refine mj_hp e_hh6 ?_
              have k7 : hh6[14]? = some (.inr (5, [.int (rd_go (rd_nx b (nI y) (nI y) x).2 2).1, .int (rd_go (rd_nx b (nI y) (nI y) x).2 2).2.1, .int (nI (rd_go (rd_nx b (nI y) (nI y) x).2 2).2.2.1), .ref 1, .int v5])) := by rw [e_hh6]; exact mj_sS u30
              have eh3 : hh6 = rr_up h a l t st m (rd_go (rd_go (rd_nx b (nI y) (nI y) x).2 2) sz) f (co_rd b (rd_go (rd_nx b (nI y) (nI y) x).2 2).2.2.2 ((rd_go (rd_nx b (nI y) (nI y) x).2 2).2.2.2 + sz) w r s).2.1 (co_rd b (rd_go (rd_nx b (nI y) (nI y) x).2 2).2.2.2 ((rd_go (rd_nx b (nI y) (nI y) x).2 2).2.2.2 + sz) w r s).2.2 q p := by rw [e_hh6, e_v5, e_H3, nI_add]; exact PS.pr (x2 := (rd_go (rd_go (rd_nx b (nI y) (nI y) x).2 2) sz))
              rw [eh3]
              have R4 : Rr (rr_up h a l t st m (rd_go (rd_go (rd_nx b (nI y) (nI y) x).2 2) sz) f (co_rd b (rd_go (rd_nx b (nI y) (nI y) x).2 2).2.2.2 ((rd_go (rd_nx b (nI y) (nI y) x).2 2).2.2.2 + sz) w r s).2.1 (co_rd b (rd_go (rd_nx b (nI y) (nI y) x).2 2).2.2.2 ((rd_go (rd_nx b (nI y) (nI y) x).2 2).2.2.2 + sz) w r s).2.2 q p) b (rd_go (rd_go (rd_nx b (nI y) (nI y) x).2 2) sz) f (co_rd b (rd_go (rd_nx b (nI y) (nI y) x).2 2).2.2.2 ((rd_go (rd_nx b (nI y) (nI y) x).2 2).2.2.2 + sz) w r s).2.1 (co_rd b (rd_go (rd_nx b (nI y) (nI y) x).2 2).2.2.2 ((rd_go (rd_nx b (nI y) (nI y) x).2 2).2.2.2 + sz) w r s).2.2 q a l t st m p := R.up cl.1 cl.2 q3 bd hok
              have u40 := R4.1.2
              have u41 := R4.1.1.1
              have u42 := R4.1.1.2.1
              have u43 := R4.2.1.1.1
              have u44 := R4.2.1.1.2.2.1.1
              have k2 : (rd_go (rd_nx b (nI y) (nI y) x).2 2).2.2.1 = x.2.2.1 := q1.2
              refine mj_aload_n d_Re_readChunk_148 rfl ?_
              refine mj_aload_n d_Re_readChunk_149 rfl ?_
              refine mj_aload_n d_Re_readChunk_150 rfl ?_
              refine mj_get ok_Re (k := 2) (by decide) fl_Re_41 d_Re_readChunk_151 u40 rfl ?_
              refine mj_iload_n d_Re_readChunk_154 rfl ?_
              refine mj_iload d_Re_readChunk_155 rfl ?_
              refine mj_iload d_Re_readChunk_157 rfl ?_
              refine mj_icmp_ge (tgt := 166) d_Re_readChunk_159 (by decide) (fun c_159 => ?_) (fun c_159 => ?_)
              · refine mj_iconst (v := 0) d_Re_readChunk_166 (by decide) ?_
                have hs : ¬ sz < w := fun e0 => nI_ge e0 (by omega) c_159
                refine mj_cV (S := []) (S1 := []) (c_Co_takeReady R4.2.1 (by rw [cu]; exact Nat.zero_le _) (y := y) (k := (rd_go (rd_nx b (nI y) (nI y) x).2 2).2.2.1) False (by rw [k2]; exact hy) (by rw [k2]; exact hk)) d_Re_readChunk_167 cw_Co_takeReady ml_Re_109 im_Co_takeReady se_Co_takeReady rfl u43 (by decide) rfl (Nat.le_of_ble_eq_true rfl) rfl rfl ?_
                rw [R4.t, tk_rd_pk (pk := False) (pk' := sz < w) ⟨fun e0 => e0.elim, fun e0 => (hs e0).elim⟩]
                have ti := tk_rd_in y (rd_go (rd_nx b (nI y) (nI y) x).2 2).2.2.1 (sz < w) f (co_rd b (rd_go (rd_nx b (nI y) (nI y) x).2 2).2.2.2 ((rd_go (rd_nx b (nI y) (nI y) x).2 2).2.2.2 + sz) w r s).2.1 p cl.1 (by rw [cu]; exact Nat.zero_le _)
                have bd5 : pi_bd (tk_rd y (rd_go (rd_nx b (nI y) (nI y) x).2 2).2.2.1 (sz < w) (f, (co_rd b (rd_go (rd_nx b (nI y) (nI y) x).2 2).2.2.2 ((rd_go (rd_nx b (nI y) (nI y) x).2 2).2.2.2 + sz) w r s).2.1, p)).2.2 := ti.2.2.bd bd
                rw [R.uu bd bd5]
                have R5 : Rr (rr_up h a l t st m (rd_go (rd_go (rd_nx b (nI y) (nI y) x).2 2) sz) (tk_rd y (rd_go (rd_nx b (nI y) (nI y) x).2 2).2.2.1 (sz < w) (f, (co_rd b (rd_go (rd_nx b (nI y) (nI y) x).2 2).2.2.2 ((rd_go (rd_nx b (nI y) (nI y) x).2 2).2.2.2 + sz) w r s).2.1, p)).1 (tk_rd y (rd_go (rd_nx b (nI y) (nI y) x).2 2).2.2.1 (sz < w) (f, (co_rd b (rd_go (rd_nx b (nI y) (nI y) x).2 2).2.2.2 ((rd_go (rd_nx b (nI y) (nI y) x).2 2).2.2.2 + sz) w r s).2.1, p)).2.1 (co_rd b (rd_go (rd_nx b (nI y) (nI y) x).2 2).2.2.2 ((rd_go (rd_nx b (nI y) (nI y) x).2 2).2.2.2 + sz) w r s).2.2 q (tk_rd y (rd_go (rd_nx b (nI y) (nI y) x).2 2).2.2.1 (sz < w) (f, (co_rd b (rd_go (rd_nx b (nI y) (nI y) x).2 2).2.2.2 ((rd_go (rd_nx b (nI y) (nI y) x).2 2).2.2.2 + sz) w r s).2.1, p)).2.2) b (rd_go (rd_go (rd_nx b (nI y) (nI y) x).2 2) sz) (tk_rd y (rd_go (rd_nx b (nI y) (nI y) x).2 2).2.2.1 (sz < w) (f, (co_rd b (rd_go (rd_nx b (nI y) (nI y) x).2 2).2.2.2 ((rd_go (rd_nx b (nI y) (nI y) x).2 2).2.2.2 + sz) w r s).2.1, p)).1 (tk_rd y (rd_go (rd_nx b (nI y) (nI y) x).2 2).2.2.1 (sz < w) (f, (co_rd b (rd_go (rd_nx b (nI y) (nI y) x).2 2).2.2.2 ((rd_go (rd_nx b (nI y) (nI y) x).2 2).2.2.2 + sz) w r s).2.1, p)).2.1 (co_rd b (rd_go (rd_nx b (nI y) (nI y) x).2 2).2.2.2 ((rd_go (rd_nx b (nI y) (nI y) x).2 2).2.2.2 + sz) w r s).2.2 q a l t st m (tk_rd y (rd_go (rd_nx b (nI y) (nI y) x).2 2).2.2.1 (sz < w) (f, (co_rd b (rd_go (rd_nx b (nI y) (nI y) x).2 2).2.2.2 ((rd_go (rd_nx b (nI y) (nI y) x).2 2).2.2.2 + sz) w r s).2.1, p)).2.2 := R.up ti.1 cl.2 q3 bd5 (ti.2.2.ok hok)
                have u50 := R5.1.2
                have u51 := R5.1.1.1
                have u52 := R5.1.1.2.1
                have u53 := R5.2.1.1.1
                have u54 := R5.2.1.1.2.2.1.1
                refine mj_aload_n d_Re_readChunk_170 rfl ?_
                refine mj_iload_n d_Re_readChunk_171 rfl ?_
                refine mj_aload_n d_Re_readChunk_172 rfl ?_
                refine mj_get ok_Re (k := 2) (by decide) fl_Re_41 d_Re_readChunk_173 u50 rfl ?_
                refine mj_cV (S := []) (S1 := [.int (if pi_okN (tk_rd y (rd_go (rd_nx b (nI y) (nI y) x).2 2).2.2.1 (sz < w) (f, (co_rd b (rd_go (rd_nx b (nI y) (nI y) x).2 2).2.2.2 ((rd_go (rd_nx b (nI y) (nI y) x).2 2).2.2.2 + sz) w r s).2.1, p)).2.2 y (rd_go (rd_nx b (nI y) (nI y) x).2 2).2.2.1 = true then 1 else 0)]) (c_Pi_holdsNumbers R5.2.1.1.2.2.1 (y := y) (k := (rd_go (rd_nx b (nI y) (nI y) x).2 2).2.2.1) (by rw [ti.2.2.en, k2]; exact hy) (by rw [k2]; exact hk)) d_Re_readChunk_176 cw_Pi_holdsNumbers ml_Re_113 im_Pi_holdsNumbers se_Pi_holdsNumbers rfl u54 (by decide) rfl (Nat.le_of_ble_eq_true rfl) rfl rfl ?_
                rcases Bool.eq_false_or_eq_true (pi_okN (tk_rd y (rd_go (rd_nx b (nI y) (nI y) x).2 2).2.2.1 (sz < w) (f, (co_rd b (rd_go (rd_nx b (nI y) (nI y) x).2 2).2.2.2 ((rd_go (rd_nx b (nI y) (nI y) x).2 2).2.2.2 + sz) w r s).2.1, p)).2.2 y (rd_go (rd_nx b (nI y) (nI y) x).2 2).2.2.1) with g9 | g9
                · rw [show (if pi_okN (tk_rd y (rd_go (rd_nx b (nI y) (nI y) x).2 2).2.2.1 (sz < w) (f, (co_rd b (rd_go (rd_nx b (nI y) (nI y) x).2 2).2.2.2 ((rd_go (rd_nx b (nI y) (nI y) x).2 2).2.2.2 + sz) w r s).2.1, p)).2.2 y (rd_go (rd_nx b (nI y) (nI y) x).2 2).2.2.1 = true then (1 : Int32) else 0) = 1 by rw [g9]; rfl]
                  refine mj_if_ne (tgt := 191) d_Re_readChunk_179 (by decide) (fun _q => ?_) (fun _q => absurd _q (by decide))
                  have er : rd_ck b y x f r s p = (true, (rd_go (rd_go (rd_nx b (nI y) (nI y) x).2 2) sz), (tk_rd y (rd_go (rd_nx b (nI y) (nI y) x).2 2).2.2.1 (sz < w) (f, (co_rd b (rd_go (rd_nx b (nI y) (nI y) x).2 2).2.2.2 ((rd_go (rd_nx b (nI y) (nI y) x).2 2).2.2.2 + sz) w r s).2.1, p)).1, (tk_rd y (rd_go (rd_nx b (nI y) (nI y) x).2 2).2.2.1 (sz < w) (f, (co_rd b (rd_go (rd_nx b (nI y) (nI y) x).2 2).2.2.2 ((rd_go (rd_nx b (nI y) (nI y) x).2 2).2.2.2 + sz) w r s).2.1, p)).2.1, (co_rd b (rd_go (rd_nx b (nI y) (nI y) x).2 2).2.2.2 ((rd_go (rd_nx b (nI y) (nI y) x).2 2).2.2.2 + sz) w r s).2.2, (tk_rd y (rd_go (rd_nx b (nI y) (nI y) x).2 2).2.2.1 (sz < w) (f, (co_rd b (rd_go (rd_nx b (nI y) (nI y) x).2 2).2.2.2 ((rd_go (rd_nx b (nI y) (nI y) x).2 2).2.2.2 + sz) w r s).2.1, p)).2.2) := by rw [ek3]; unfold rd_ckC; rw [if_pos g9]
                  refine mj_iconst (v := 1) d_Re_readChunk_191 (by decide) ?_
                  refine mj_goto (tgt := 196) d_Re_readChunk_192 (by decide) ?_
                  exact mj_zret rfl rfl d_Re_readChunk_196 ⟨by rw [er]; rfl, by rw [er]⟩
                · rw [show (if pi_okN (tk_rd y (rd_go (rd_nx b (nI y) (nI y) x).2 2).2.2.1 (sz < w) (f, (co_rd b (rd_go (rd_nx b (nI y) (nI y) x).2 2).2.2.2 ((rd_go (rd_nx b (nI y) (nI y) x).2 2).2.2.2 + sz) w r s).2.1, p)).2.2 y (rd_go (rd_nx b (nI y) (nI y) x).2 2).2.2.1 = true then (1 : Int32) else 0) = 0 by rw [g9]; rfl]
                  refine mj_if_ne (tgt := 191) d_Re_readChunk_179 (by decide) (fun _q => absurd rfl _q) (fun _q => ?_)
                  refine mj_aload_n d_Re_readChunk_182 rfl ?_
                  refine mj_iload d_Re_readChunk_183 rfl ?_
                  refine mj_cV (S := []) (S1 := [.int 0]) (c_Re_failsAt R5.1 (nI x.2.2.2)) d_Re_readChunk_185 cw_Re_failsAt ml_Re_60 im_Re_failsAt se_Re_failsAt rfl u50 (by decide) rfl (Nat.le_of_ble_eq_true rfl) rfl rfl ?_
                  rw [R5.x, R.uu bd5 bd5]
                  have er : rd_ck b y x f r s p = (false, rd_fl (rd_go (rd_go (rd_nx b (nI y) (nI y) x).2 2) sz) (nI x.2.2.2), (tk_rd y (rd_go (rd_nx b (nI y) (nI y) x).2 2).2.2.1 (sz < w) (f, (co_rd b (rd_go (rd_nx b (nI y) (nI y) x).2 2).2.2.2 ((rd_go (rd_nx b (nI y) (nI y) x).2 2).2.2.2 + sz) w r s).2.1, p)).1, (tk_rd y (rd_go (rd_nx b (nI y) (nI y) x).2 2).2.2.1 (sz < w) (f, (co_rd b (rd_go (rd_nx b (nI y) (nI y) x).2 2).2.2.2 ((rd_go (rd_nx b (nI y) (nI y) x).2 2).2.2.2 + sz) w r s).2.1, p)).2.1, (co_rd b (rd_go (rd_nx b (nI y) (nI y) x).2 2).2.2.2 ((rd_go (rd_nx b (nI y) (nI y) x).2 2).2.2.2 + sz) w r s).2.2, (tk_rd y (rd_go (rd_nx b (nI y) (nI y) x).2 2).2.2.1 (sz < w) (f, (co_rd b (rd_go (rd_nx b (nI y) (nI y) x).2 2).2.2.2 ((rd_go (rd_nx b (nI y) (nI y) x).2 2).2.2.2 + sz) w r s).2.1, p)).2.2) := by rw [ek3]; unfold rd_ckC; rw [if_neg (by rw [g9]; decide)]
                  refine mj_if_eq (tgt := 195) d_Re_readChunk_188 (by decide) (fun _q => ?_) (fun _q => absurd rfl _q)
                  refine mj_iconst (v := 0) d_Re_readChunk_195 (by decide) ?_
                  exact mj_zret rfl rfl d_Re_readChunk_196 ⟨by rw [er]; rfl, by rw [er]⟩
              · refine mj_iconst (v := 1) d_Re_readChunk_162 (by decide) ?_
                refine mj_goto (tgt := 167) d_Re_readChunk_163 (by decide) ?_
                have hs : sz < w := by
                  rcases Nat.lt_or_ge (sz) (w) with q | q
                  · exact q
                  · exact absurd (nI_le q (by omega)) c_159
                refine mj_cV (S := []) (S1 := []) (c_Co_takeReady R4.2.1 (by rw [cu]; exact Nat.zero_le _) (y := y) (k := (rd_go (rd_nx b (nI y) (nI y) x).2 2).2.2.1) True (by rw [k2]; exact hy) (by rw [k2]; exact hk)) d_Re_readChunk_167 cw_Co_takeReady ml_Re_109 im_Co_takeReady se_Co_takeReady rfl u43 (by decide) rfl (Nat.le_of_ble_eq_true rfl) rfl rfl ?_
                rw [R4.t, tk_rd_pk (pk := True) (pk' := sz < w) ⟨fun _ => hs, fun _ => trivial⟩]
                have ti := tk_rd_in y (rd_go (rd_nx b (nI y) (nI y) x).2 2).2.2.1 (sz < w) f (co_rd b (rd_go (rd_nx b (nI y) (nI y) x).2 2).2.2.2 ((rd_go (rd_nx b (nI y) (nI y) x).2 2).2.2.2 + sz) w r s).2.1 p cl.1 (by rw [cu]; exact Nat.zero_le _)
                have bd5 : pi_bd (tk_rd y (rd_go (rd_nx b (nI y) (nI y) x).2 2).2.2.1 (sz < w) (f, (co_rd b (rd_go (rd_nx b (nI y) (nI y) x).2 2).2.2.2 ((rd_go (rd_nx b (nI y) (nI y) x).2 2).2.2.2 + sz) w r s).2.1, p)).2.2 := ti.2.2.bd bd
                rw [R.uu bd bd5]
                have R5 : Rr (rr_up h a l t st m (rd_go (rd_go (rd_nx b (nI y) (nI y) x).2 2) sz) (tk_rd y (rd_go (rd_nx b (nI y) (nI y) x).2 2).2.2.1 (sz < w) (f, (co_rd b (rd_go (rd_nx b (nI y) (nI y) x).2 2).2.2.2 ((rd_go (rd_nx b (nI y) (nI y) x).2 2).2.2.2 + sz) w r s).2.1, p)).1 (tk_rd y (rd_go (rd_nx b (nI y) (nI y) x).2 2).2.2.1 (sz < w) (f, (co_rd b (rd_go (rd_nx b (nI y) (nI y) x).2 2).2.2.2 ((rd_go (rd_nx b (nI y) (nI y) x).2 2).2.2.2 + sz) w r s).2.1, p)).2.1 (co_rd b (rd_go (rd_nx b (nI y) (nI y) x).2 2).2.2.2 ((rd_go (rd_nx b (nI y) (nI y) x).2 2).2.2.2 + sz) w r s).2.2 q (tk_rd y (rd_go (rd_nx b (nI y) (nI y) x).2 2).2.2.1 (sz < w) (f, (co_rd b (rd_go (rd_nx b (nI y) (nI y) x).2 2).2.2.2 ((rd_go (rd_nx b (nI y) (nI y) x).2 2).2.2.2 + sz) w r s).2.1, p)).2.2) b (rd_go (rd_go (rd_nx b (nI y) (nI y) x).2 2) sz) (tk_rd y (rd_go (rd_nx b (nI y) (nI y) x).2 2).2.2.1 (sz < w) (f, (co_rd b (rd_go (rd_nx b (nI y) (nI y) x).2 2).2.2.2 ((rd_go (rd_nx b (nI y) (nI y) x).2 2).2.2.2 + sz) w r s).2.1, p)).1 (tk_rd y (rd_go (rd_nx b (nI y) (nI y) x).2 2).2.2.1 (sz < w) (f, (co_rd b (rd_go (rd_nx b (nI y) (nI y) x).2 2).2.2.2 ((rd_go (rd_nx b (nI y) (nI y) x).2 2).2.2.2 + sz) w r s).2.1, p)).2.1 (co_rd b (rd_go (rd_nx b (nI y) (nI y) x).2 2).2.2.2 ((rd_go (rd_nx b (nI y) (nI y) x).2 2).2.2.2 + sz) w r s).2.2 q a l t st m (tk_rd y (rd_go (rd_nx b (nI y) (nI y) x).2 2).2.2.1 (sz < w) (f, (co_rd b (rd_go (rd_nx b (nI y) (nI y) x).2 2).2.2.2 ((rd_go (rd_nx b (nI y) (nI y) x).2 2).2.2.2 + sz) w r s).2.1, p)).2.2 := R.up ti.1 cl.2 q3 bd5 (ti.2.2.ok hok)
                have u50 := R5.1.2
                have u51 := R5.1.1.1
                have u52 := R5.1.1.2.1
                have u53 := R5.2.1.1.1
                have u54 := R5.2.1.1.2.2.1.1
                refine mj_aload_n d_Re_readChunk_170 rfl ?_
                refine mj_iload_n d_Re_readChunk_171 rfl ?_
                refine mj_aload_n d_Re_readChunk_172 rfl ?_
                refine mj_get ok_Re (k := 2) (by decide) fl_Re_41 d_Re_readChunk_173 u50 rfl ?_
                refine mj_cV (S := []) (S1 := [.int (if pi_okN (tk_rd y (rd_go (rd_nx b (nI y) (nI y) x).2 2).2.2.1 (sz < w) (f, (co_rd b (rd_go (rd_nx b (nI y) (nI y) x).2 2).2.2.2 ((rd_go (rd_nx b (nI y) (nI y) x).2 2).2.2.2 + sz) w r s).2.1, p)).2.2 y (rd_go (rd_nx b (nI y) (nI y) x).2 2).2.2.1 = true then 1 else 0)]) (c_Pi_holdsNumbers R5.2.1.1.2.2.1 (y := y) (k := (rd_go (rd_nx b (nI y) (nI y) x).2 2).2.2.1) (by rw [ti.2.2.en, k2]; exact hy) (by rw [k2]; exact hk)) d_Re_readChunk_176 cw_Pi_holdsNumbers ml_Re_113 im_Pi_holdsNumbers se_Pi_holdsNumbers rfl u54 (by decide) rfl (Nat.le_of_ble_eq_true rfl) rfl rfl ?_
                rcases Bool.eq_false_or_eq_true (pi_okN (tk_rd y (rd_go (rd_nx b (nI y) (nI y) x).2 2).2.2.1 (sz < w) (f, (co_rd b (rd_go (rd_nx b (nI y) (nI y) x).2 2).2.2.2 ((rd_go (rd_nx b (nI y) (nI y) x).2 2).2.2.2 + sz) w r s).2.1, p)).2.2 y (rd_go (rd_nx b (nI y) (nI y) x).2 2).2.2.1) with g9 | g9
                · rw [show (if pi_okN (tk_rd y (rd_go (rd_nx b (nI y) (nI y) x).2 2).2.2.1 (sz < w) (f, (co_rd b (rd_go (rd_nx b (nI y) (nI y) x).2 2).2.2.2 ((rd_go (rd_nx b (nI y) (nI y) x).2 2).2.2.2 + sz) w r s).2.1, p)).2.2 y (rd_go (rd_nx b (nI y) (nI y) x).2 2).2.2.1 = true then (1 : Int32) else 0) = 1 by rw [g9]; rfl]
                  refine mj_if_ne (tgt := 191) d_Re_readChunk_179 (by decide) (fun _q => ?_) (fun _q => absurd _q (by decide))
                  have er : rd_ck b y x f r s p = (true, (rd_go (rd_go (rd_nx b (nI y) (nI y) x).2 2) sz), (tk_rd y (rd_go (rd_nx b (nI y) (nI y) x).2 2).2.2.1 (sz < w) (f, (co_rd b (rd_go (rd_nx b (nI y) (nI y) x).2 2).2.2.2 ((rd_go (rd_nx b (nI y) (nI y) x).2 2).2.2.2 + sz) w r s).2.1, p)).1, (tk_rd y (rd_go (rd_nx b (nI y) (nI y) x).2 2).2.2.1 (sz < w) (f, (co_rd b (rd_go (rd_nx b (nI y) (nI y) x).2 2).2.2.2 ((rd_go (rd_nx b (nI y) (nI y) x).2 2).2.2.2 + sz) w r s).2.1, p)).2.1, (co_rd b (rd_go (rd_nx b (nI y) (nI y) x).2 2).2.2.2 ((rd_go (rd_nx b (nI y) (nI y) x).2 2).2.2.2 + sz) w r s).2.2, (tk_rd y (rd_go (rd_nx b (nI y) (nI y) x).2 2).2.2.1 (sz < w) (f, (co_rd b (rd_go (rd_nx b (nI y) (nI y) x).2 2).2.2.2 ((rd_go (rd_nx b (nI y) (nI y) x).2 2).2.2.2 + sz) w r s).2.1, p)).2.2) := by rw [ek3]; unfold rd_ckC; rw [if_pos g9]
                  refine mj_iconst (v := 1) d_Re_readChunk_191 (by decide) ?_
                  refine mj_goto (tgt := 196) d_Re_readChunk_192 (by decide) ?_
                  exact mj_zret rfl rfl d_Re_readChunk_196 ⟨by rw [er]; rfl, by rw [er]⟩
                · rw [show (if pi_okN (tk_rd y (rd_go (rd_nx b (nI y) (nI y) x).2 2).2.2.1 (sz < w) (f, (co_rd b (rd_go (rd_nx b (nI y) (nI y) x).2 2).2.2.2 ((rd_go (rd_nx b (nI y) (nI y) x).2 2).2.2.2 + sz) w r s).2.1, p)).2.2 y (rd_go (rd_nx b (nI y) (nI y) x).2 2).2.2.1 = true then (1 : Int32) else 0) = 0 by rw [g9]; rfl]
                  refine mj_if_ne (tgt := 191) d_Re_readChunk_179 (by decide) (fun _q => absurd rfl _q) (fun _q => ?_)
                  refine mj_aload_n d_Re_readChunk_182 rfl ?_
                  refine mj_iload d_Re_readChunk_183 rfl ?_
                  refine mj_cV (S := []) (S1 := [.int 0]) (c_Re_failsAt R5.1 (nI x.2.2.2)) d_Re_readChunk_185 cw_Re_failsAt ml_Re_60 im_Re_failsAt se_Re_failsAt rfl u50 (by decide) rfl (Nat.le_of_ble_eq_true rfl) rfl rfl ?_
                  rw [R5.x, R.uu bd5 bd5]
                  have er : rd_ck b y x f r s p = (false, rd_fl (rd_go (rd_go (rd_nx b (nI y) (nI y) x).2 2) sz) (nI x.2.2.2), (tk_rd y (rd_go (rd_nx b (nI y) (nI y) x).2 2).2.2.1 (sz < w) (f, (co_rd b (rd_go (rd_nx b (nI y) (nI y) x).2 2).2.2.2 ((rd_go (rd_nx b (nI y) (nI y) x).2 2).2.2.2 + sz) w r s).2.1, p)).1, (tk_rd y (rd_go (rd_nx b (nI y) (nI y) x).2 2).2.2.1 (sz < w) (f, (co_rd b (rd_go (rd_nx b (nI y) (nI y) x).2 2).2.2.2 ((rd_go (rd_nx b (nI y) (nI y) x).2 2).2.2.2 + sz) w r s).2.1, p)).2.1, (co_rd b (rd_go (rd_nx b (nI y) (nI y) x).2 2).2.2.2 ((rd_go (rd_nx b (nI y) (nI y) x).2 2).2.2.2 + sz) w r s).2.2, (tk_rd y (rd_go (rd_nx b (nI y) (nI y) x).2 2).2.2.1 (sz < w) (f, (co_rd b (rd_go (rd_nx b (nI y) (nI y) x).2 2).2.2.2 ((rd_go (rd_nx b (nI y) (nI y) x).2 2).2.2.2 + sz) w r s).2.1, p)).2.2) := by rw [ek3]; unfold rd_ckC; rw [if_neg (by rw [g9]; decide)]
                  refine mj_if_eq (tgt := 195) d_Re_readChunk_188 (by decide) (fun _q => ?_) (fun _q => absurd rfl _q)
                  refine mj_iconst (v := 0) d_Re_readChunk_195 (by decide) ?_
                  exact mj_zret rfl rfl d_Re_readChunk_196 ⟨by rw [er]; rfl, by rw [er]⟩
            · rw [e_v4] at c_127
              have er : rd_ck b y x f r s p = (false, rd_fl (rd_go (rd_nx b (nI y) (nI y) x).2 2) v4, f, (co_rd b (rd_go (rd_nx b (nI y) (nI y) x).2 2).2.2.2 ((rd_go (rd_nx b (nI y) (nI y) x).2 2).2.2.2 + sz) w r s).2.1, (co_rd b (rd_go (rd_nx b (nI y) (nI y) x).2 2).2.2.2 ((rd_go (rd_nx b (nI y) (nI y) x).2 2).2.2.2 + sz) w r s).2.2, p) := by rw [ek2]; unfold rd_ckB; rw [if_neg c_127, e_v4]
              refine mj_aload_n d_Re_readChunk_130 rfl ?_
              refine mj_iload d_Re_readChunk_131 rfl ?_
              refine mj_cV (S := []) (S1 := [.int 0]) (c_Re_failsAt R3.1 v4) d_Re_readChunk_133 cw_Re_failsAt ml_Re_60 im_Re_failsAt se_Re_failsAt rfl u30 (by decide) rfl (Nat.le_of_ble_eq_true rfl) rfl rfl ?_
              rw [R3.x, R.uu bd bd]
              exact mj_zret rfl rfl d_Re_readChunk_136 ⟨by rw [er]; rfl, by rw [er]⟩
        · refine mj_iload d_Re_readChunk_63 rfl ?_
          refine mj_iload d_Re_readChunk_65 rfl ?_
          refine mj_icmp_ge (tgt := 79) d_Re_readChunk_67 (by decide) (fun c_67 => ?_) (fun c_67 => ?_)
          · have hn1 : ¬ w < sz := fun e0 => c_53 ((nI_ltI (by omega) (by omega)).mpr e0)
            have hn2 : ¬ (x.2.2.1 = 0 ∧ sz < w) := fun e0 => nI_ge e0.2 (by omega) c_67
            have g2 : ¬ (w < sz ∨ (x.2.2.1 = 0 ∧ sz < w)) := fun e0 => e0.elim hn1 hn2
            obtain ⟨H1, e_H1⟩ : ∃ q_, q_ = rr_up h a l t st m (rd_nx b (nI y) (nI y) x).2 f r s q p := ⟨_, rfl⟩
            rw [← e_H1] at u10 ⊢
            refine mj_aload_n d_Re_readChunk_79 rfl ?_
            refine mj_dup d_Re_readChunk_80 rfl ?_
            refine mj_get ok_Re (k := 4) (by decide) fl_Re_24 d_Re_readChunk_81 u10 rfl ?_
            refine mj_iconst (v := 2) d_Re_readChunk_84 (by decide) ?_
            refine mj_iadd d_Re_readChunk_85 ?_
            refine mj_topi (fun v8 e_v8 => ?_)
            refine mj_put ok_Re (k := 4) (by decide) fl_Re_24 rfl (fun _ => rfl) (fun _ => rfl) (Nat.le_of_ble_eq_true rfl) d_Re_readChunk_86 u10 ?_
            obtain ⟨hh9, e_hh9⟩ : ∃ q_ : mj_H, q_ = H1.set 14 (.inr (5, [.int (rd_nx b (nI y) (nI y) x).2.1, .int (rd_nx b (nI y) (nI y) x).2.2.1, .int (nI (rd_nx b (nI y) (nI y) x).2.2.2.1), .ref 1, .int v8])) := ⟨_, rfl⟩
            refine mj_hp e_hh9 ?_
            have k10 : hh9[14]? = some (.inr (5, [.int (rd_nx b (nI y) (nI y) x).2.1, .int (rd_nx b (nI y) (nI y) x).2.2.1, .int (nI (rd_nx b (nI y) (nI y) x).2.2.2.1), .ref 1, .int v8])) := by rw [e_hh9]; exact mj_sS u10
            have eh : hh9 = rr_up h a l t st m (rd_go (rd_nx b (nI y) (nI y) x).2 2) f r s q p := by rw [e_hh9, e_v8, e_H1, show nI (rd_nx b (nI y) (nI y) x).2.2.2.2 + 2 = nI ((rd_nx b (nI y) (nI y) x).2.2.2.2 + 2) from nI_add _ 2]; exact PS.pr (x2 := (rd_go (rd_nx b (nI y) (nI y) x).2 2))
            rw [eh]
            have R2 : Rr (rr_up h a l t st m (rd_go (rd_nx b (nI y) (nI y) x).2 2) f r s q p) b (rd_go (rd_nx b (nI y) (nI y) x).2 2) f r s q a l t st m p := R.up b3 s3 q3 bd hok
            have u20 := R2.1.2
            have u21 := R2.1.1.1
            have u22 := R2.1.1.2.1
            have u23 := R2.2.1.1.1
            have u24 := R2.2.1.1.2.2.1.1
            have q2 : (rd_go (rd_nx b (nI y) (nI y) x).2 2).2.2.2 ≤ b.1 := by show (rd_nx b (nI y) (nI y) x).2.2.2.2 + 2 ≤ b.1; omega
            refine mj_aload_n d_Re_readChunk_89 rfl ?_
            refine mj_iload d_Re_readChunk_90 rfl ?_
            by_cases l92 : b.1 < (rd_nx b (nI y) (nI y) x).2.2.2.2 + 2 + sz
            · refine mj_cV (S := []) (S1 := [.int 1]) (c_Re_lacks1 R2.1 q2 (n := sz) (by omega) l92) d_Re_readChunk_92 cw_Re_lacks ml_Re_90 im_Re_lacks se_Re_lacks rfl u20 (by decide) rfl (Nat.le_of_ble_eq_true rfl) rfl rfl ?_
              rw [R2.x, R.uu bd bd]
              refine mj_if_eq (tgt := 100) d_Re_readChunk_95 (by decide) (fun _q => absurd _q (by decide)) (fun _q => ?_)
              have er : rd_ck b y x f r s p = (false, rd_fl (rd_go (rd_nx b (nI y) (nI y) x).2 2) (nI b.1), f, r, s, p) := by rw [ek]; unfold rd_ckA; rw [if_neg l17, q1.2, ← esz, ← ew, if_neg g2, if_pos l92]
              refine mj_iconst (v := 0) d_Re_readChunk_98 (by decide) ?_
              exact mj_zret rfl rfl d_Re_readChunk_99 ⟨by rw [er]; rfl, by rw [er]⟩
            · refine mj_cV (S := []) (S1 := [.int 0]) (c_Re_lacks0 R2.1 q2 (n := sz) (by omega) l92) d_Re_readChunk_92 cw_Re_lacks ml_Re_90 im_Re_lacks se_Re_lacks rfl u20 (by decide) rfl (Nat.le_of_ble_eq_true rfl) rfl rfl ?_
              refine mj_if_eq (tgt := 100) d_Re_readChunk_95 (by decide) (fun _q => ?_) (fun _q => absurd rfl _q)
              refine mj_aload_n d_Re_readChunk_100 rfl ?_
              refine mj_aload_n d_Re_readChunk_101 rfl ?_
              refine mj_get ok_Re (k := 3) (by decide) fl_Re_20 d_Re_readChunk_102 u20 rfl ?_
              refine mj_aload_n d_Re_readChunk_105 rfl ?_
              refine mj_get ok_Re (k := 4) (by decide) fl_Re_24 d_Re_readChunk_106 u20 rfl ?_
              refine mj_aload_n d_Re_readChunk_109 rfl ?_
              refine mj_get ok_Re (k := 4) (by decide) fl_Re_24 d_Re_readChunk_110 u20 rfl ?_
              refine mj_iload d_Re_readChunk_113 rfl ?_
              refine mj_iadd d_Re_readChunk_115 ?_
              refine mj_iload d_Re_readChunk_116 rfl ?_
              rw [nI_add]
              refine mj_cV (S := []) (S1 := [.int (co_rd b (rd_go (rd_nx b (nI y) (nI y) x).2 2).2.2.2 ((rd_go (rd_nx b (nI y) (nI y) x).2 2).2.2.2 + sz) w r s).1]) (c_Co_makeReady R2.2 R2.1.1 (by decide) (by decide) (by decide) (by decide) hb (x := (rd_go (rd_nx b (nI y) (nI y) x).2 2).2.2.2) (e := (rd_go (rd_nx b (nI y) (nI y) x).2 2).2.2.2 + sz) (w := w) (Nat.le_add_right _ _) (by show (rd_nx b (nI y) (nI y) x).2.2.2.2 + 2 + sz ≤ b.1; omega) (by omega) (by omega)) d_Re_readChunk_118 cw_Co_makeReady ml_Re_103 im_Co_makeReady se_Co_makeReady rfl u23 (by decide) rfl (Nat.le_of_ble_eq_true rfl) rfl rfl ?_
              have cl := co_rd_le b (rd_go (rd_nx b (nI y) (nI y) x).2 2).2.2.2 ((rd_go (rd_nx b (nI y) (nI y) x).2 2).2.2.2 + sz) w r s b3 s3
              rw [R2.c, R.uu bd bd]
              have R3 : Rr (rr_up h a l t st m (rd_go (rd_nx b (nI y) (nI y) x).2 2) f (co_rd b (rd_go (rd_nx b (nI y) (nI y) x).2 2).2.2.2 ((rd_go (rd_nx b (nI y) (nI y) x).2 2).2.2.2 + sz) w r s).2.1 (co_rd b (rd_go (rd_nx b (nI y) (nI y) x).2 2).2.2.2 ((rd_go (rd_nx b (nI y) (nI y) x).2 2).2.2.2 + sz) w r s).2.2 q p) b (rd_go (rd_nx b (nI y) (nI y) x).2 2) f (co_rd b (rd_go (rd_nx b (nI y) (nI y) x).2 2).2.2.2 ((rd_go (rd_nx b (nI y) (nI y) x).2 2).2.2.2 + sz) w r s).2.1 (co_rd b (rd_go (rd_nx b (nI y) (nI y) x).2 2).2.2.2 ((rd_go (rd_nx b (nI y) (nI y) x).2 2).2.2.2 + sz) w r s).2.2 q a l t st m p := R.up cl.1 cl.2 q3 bd hok
              have u30 := R3.1.2
              have u31 := R3.1.1.1
              have u32 := R3.1.1.2.1
              have u33 := R3.2.1.1.1
              have u34 := R3.2.1.1.2.2.1.1
              have ek2 : rd_ck b y x f r s p = rd_ckB b y x.2.2.2 sz w (rd_go (rd_nx b (nI y) (nI y) x).2 2) f r s p := by rw [ek]; unfold rd_ckA; rw [if_neg l17, q1.2, ← esz, ← ew, if_neg g2, if_neg l92]
              refine mj_topi (fun v11 e_v11 => ?_)
              refine mj_istore (L' := [some (.ref 14), some (.int (nI y)), some (.ref a), some (.ref 3), some (.int (nI x.2.2.2)), some (.int (nI sz)), some (.int (nI w)), some (.int v11)]) d_Re_readChunk_121 (by decide) rfl rfl ?_
              refine mj_iload d_Re_readChunk_123 rfl ?_
              refine mj_bipush (v := (-2)) d_Re_readChunk_125 (by decide) ?_
              refine mj_icmp_eq (tgt := 137) d_Re_readChunk_127 (by decide) (fun c_127 => ?_) (fun c_127 => ?_)
              · rw [e_v11] at c_127
                have ek3 : rd_ck b y x f r s p = rd_ckC y (rd_go (rd_nx b (nI y) (nI y) x).2 2).2.2.1 x.2.2.2 sz w (rd_go (rd_go (rd_nx b (nI y) (nI y) x).2 2) sz) f (co_rd b (rd_go (rd_nx b (nI y) (nI y) x).2 2).2.2.2 ((rd_go (rd_nx b (nI y) (nI y) x).2 2).2.2.2 + sz) w r s).2.1 (co_rd b (rd_go (rd_nx b (nI y) (nI y) x).2 2).2.2.2 ((rd_go (rd_nx b (nI y) (nI y) x).2 2).2.2.2 + sz) w r s).2.2 p := by rw [ek2]; unfold rd_ckB; rw [if_pos c_127]
                have cu := co_rd_cu (b := b) (x := (rd_go (rd_nx b (nI y) (nI y) x).2 2).2.2.2) (e := (rd_go (rd_nx b (nI y) (nI y) x).2 2).2.2.2 + sz) (w := w) (r := r) (s := s) (by show (rd_nx b (nI y) (nI y) x).2.2.2.2 + 2 + sz < 2 ^ 31; omega) c_127
                obtain ⟨H3, e_H3⟩ : ∃ q_, q_ = rr_up h a l t st m (rd_go (rd_nx b (nI y) (nI y) x).2 2) f (co_rd b (rd_go (rd_nx b (nI y) (nI y) x).2 2).2.2.2 ((rd_go (rd_nx b (nI y) (nI y) x).2 2).2.2.2 + sz) w r s).2.1 (co_rd b (rd_go (rd_nx b (nI y) (nI y) x).2 2).2.2.2 ((rd_go (rd_nx b (nI y) (nI y) x).2 2).2.2.2 + sz) w r s).2.2 q p := ⟨_, rfl⟩
                rw [← e_H3] at u30 ⊢
                refine mj_aload_n d_Re_readChunk_137 rfl ?_
                refine mj_dup d_Re_readChunk_138 rfl ?_
                refine mj_get ok_Re (k := 4) (by decide) fl_Re_24 d_Re_readChunk_139 u30 rfl ?_
                refine mj_iload d_Re_readChunk_142 rfl ?_
                refine mj_iadd d_Re_readChunk_144 ?_
                refine mj_topi (fun v12 e_v12 => ?_)
                refine mj_put ok_Re (k := 4) (by decide) fl_Re_24 rfl (fun _ => rfl) (fun _ => rfl) (Nat.le_of_ble_eq_true rfl) d_Re_readChunk_145 u30 ?_
                obtain ⟨hh13, e_hh13⟩ : ∃ q_ : mj_H, q_ = H3.set 14 (.inr (5, [.int (rd_go (rd_nx b (nI y) (nI y) x).2 2).1, .int (rd_go (rd_nx b (nI y) (nI y) x).2 2).2.1, .int (nI (rd_go (rd_nx b (nI y) (nI y) x).2 2).2.2.1), .ref 1, .int v12])) := ⟨_, rfl⟩
                refine mj_hp e_hh13 ?_
                have k14 : hh13[14]? = some (.inr (5, [.int (rd_go (rd_nx b (nI y) (nI y) x).2 2).1, .int (rd_go (rd_nx b (nI y) (nI y) x).2 2).2.1, .int (nI (rd_go (rd_nx b (nI y) (nI y) x).2 2).2.2.1), .ref 1, .int v12])) := by rw [e_hh13]; exact mj_sS u30
                have eh3 : hh13 = rr_up h a l t st m (rd_go (rd_go (rd_nx b (nI y) (nI y) x).2 2) sz) f (co_rd b (rd_go (rd_nx b (nI y) (nI y) x).2 2).2.2.2 ((rd_go (rd_nx b (nI y) (nI y) x).2 2).2.2.2 + sz) w r s).2.1 (co_rd b (rd_go (rd_nx b (nI y) (nI y) x).2 2).2.2.2 ((rd_go (rd_nx b (nI y) (nI y) x).2 2).2.2.2 + sz) w r s).2.2 q p := by rw [e_hh13, e_v12, e_H3, nI_add]; exact PS.pr (x2 := (rd_go (rd_go (rd_nx b (nI y) (nI y) x).2 2) sz))
                rw [eh3]
                have R4 : Rr (rr_up h a l t st m (rd_go (rd_go (rd_nx b (nI y) (nI y) x).2 2) sz) f (co_rd b (rd_go (rd_nx b (nI y) (nI y) x).2 2).2.2.2 ((rd_go (rd_nx b (nI y) (nI y) x).2 2).2.2.2 + sz) w r s).2.1 (co_rd b (rd_go (rd_nx b (nI y) (nI y) x).2 2).2.2.2 ((rd_go (rd_nx b (nI y) (nI y) x).2 2).2.2.2 + sz) w r s).2.2 q p) b (rd_go (rd_go (rd_nx b (nI y) (nI y) x).2 2) sz) f (co_rd b (rd_go (rd_nx b (nI y) (nI y) x).2 2).2.2.2 ((rd_go (rd_nx b (nI y) (nI y) x).2 2).2.2.2 + sz) w r s).2.1 (co_rd b (rd_go (rd_nx b (nI y) (nI y) x).2 2).2.2.2 ((rd_go (rd_nx b (nI y) (nI y) x).2 2).2.2.2 + sz) w r s).2.2 q a l t st m p := R.up cl.1 cl.2 q3 bd hok
                have u40 := R4.1.2
                have u41 := R4.1.1.1
                have u42 := R4.1.1.2.1
                have u43 := R4.2.1.1.1
                have u44 := R4.2.1.1.2.2.1.1
                have k2 : (rd_go (rd_nx b (nI y) (nI y) x).2 2).2.2.1 = x.2.2.1 := q1.2
                refine mj_aload_n d_Re_readChunk_148 rfl ?_
                refine mj_aload_n d_Re_readChunk_149 rfl ?_
                refine mj_aload_n d_Re_readChunk_150 rfl ?_
                refine mj_get ok_Re (k := 2) (by decide) fl_Re_41 d_Re_readChunk_151 u40 rfl ?_
                refine mj_iload_n d_Re_readChunk_154 rfl ?_
                refine mj_iload d_Re_readChunk_155 rfl ?_
                refine mj_iload d_Re_readChunk_157 rfl ?_
                refine mj_icmp_ge (tgt := 166) d_Re_readChunk_159 (by decide) (fun c_159 => ?_) (fun c_159 => ?_)
                · refine mj_iconst (v := 0) d_Re_readChunk_166 (by decide) ?_
                  have hs : ¬ sz < w := fun e0 => nI_ge e0 (by omega) c_159
                  refine mj_cV (S := []) (S1 := []) (c_Co_takeReady R4.2.1 (by rw [cu]; exact Nat.zero_le _) (y := y) (k := (rd_go (rd_nx b (nI y) (nI y) x).2 2).2.2.1) False (by rw [k2]; exact hy) (by rw [k2]; exact hk)) d_Re_readChunk_167 cw_Co_takeReady ml_Re_109 im_Co_takeReady se_Co_takeReady rfl u43 (by decide) rfl (Nat.le_of_ble_eq_true rfl) rfl rfl ?_
                  rw [R4.t, tk_rd_pk (pk := False) (pk' := sz < w) ⟨fun e0 => e0.elim, fun e0 => (hs e0).elim⟩]
                  have ti := tk_rd_in y (rd_go (rd_nx b (nI y) (nI y) x).2 2).2.2.1 (sz < w) f (co_rd b (rd_go (rd_nx b (nI y) (nI y) x).2 2).2.2.2 ((rd_go (rd_nx b (nI y) (nI y) x).2 2).2.2.2 + sz) w r s).2.1 p cl.1 (by rw [cu]; exact Nat.zero_le _)
                  have bd5 : pi_bd (tk_rd y (rd_go (rd_nx b (nI y) (nI y) x).2 2).2.2.1 (sz < w) (f, (co_rd b (rd_go (rd_nx b (nI y) (nI y) x).2 2).2.2.2 ((rd_go (rd_nx b (nI y) (nI y) x).2 2).2.2.2 + sz) w r s).2.1, p)).2.2 := ti.2.2.bd bd
                  rw [R.uu bd bd5]
                  have R5 : Rr (rr_up h a l t st m (rd_go (rd_go (rd_nx b (nI y) (nI y) x).2 2) sz) (tk_rd y (rd_go (rd_nx b (nI y) (nI y) x).2 2).2.2.1 (sz < w) (f, (co_rd b (rd_go (rd_nx b (nI y) (nI y) x).2 2).2.2.2 ((rd_go (rd_nx b (nI y) (nI y) x).2 2).2.2.2 + sz) w r s).2.1, p)).1 (tk_rd y (rd_go (rd_nx b (nI y) (nI y) x).2 2).2.2.1 (sz < w) (f, (co_rd b (rd_go (rd_nx b (nI y) (nI y) x).2 2).2.2.2 ((rd_go (rd_nx b (nI y) (nI y) x).2 2).2.2.2 + sz) w r s).2.1, p)).2.1 (co_rd b (rd_go (rd_nx b (nI y) (nI y) x).2 2).2.2.2 ((rd_go (rd_nx b (nI y) (nI y) x).2 2).2.2.2 + sz) w r s).2.2 q (tk_rd y (rd_go (rd_nx b (nI y) (nI y) x).2 2).2.2.1 (sz < w) (f, (co_rd b (rd_go (rd_nx b (nI y) (nI y) x).2 2).2.2.2 ((rd_go (rd_nx b (nI y) (nI y) x).2 2).2.2.2 + sz) w r s).2.1, p)).2.2) b (rd_go (rd_go (rd_nx b (nI y) (nI y) x).2 2) sz) (tk_rd y (rd_go (rd_nx b (nI y) (nI y) x).2 2).2.2.1 (sz < w) (f, (co_rd b (rd_go (rd_nx b (nI y) (nI y) x).2 2).2.2.2 ((rd_go (rd_nx b (nI y) (nI y) x).2 2).2.2.2 + sz) w r s).2.1, p)).1 (tk_rd y (rd_go (rd_nx b (nI y) (nI y) x).2 2).2.2.1 (sz < w) (f, (co_rd b (rd_go (rd_nx b (nI y) (nI y) x).2 2).2.2.2 ((rd_go (rd_nx b (nI y) (nI y) x).2 2).2.2.2 + sz) w r s).2.1, p)).2.1 (co_rd b (rd_go (rd_nx b (nI y) (nI y) x).2 2).2.2.2 ((rd_go (rd_nx b (nI y) (nI y) x).2 2).2.2.2 + sz) w r s).2.2 q a l t st m (tk_rd y (rd_go (rd_nx b (nI y) (nI y) x).2 2).2.2.1 (sz < w) (f, (co_rd b (rd_go (rd_nx b (nI y) (nI y) x).2 2).2.2.2 ((rd_go (rd_nx b (nI y) (nI y) x).2 2).2.2.2 + sz) w r s).2.1, p)).2.2 := R.up ti.1 cl.2 q3 bd5 (ti.2.2.ok hok)
                  have u50 := R5.1.2
                  have u51 := R5.1.1.1
                  have u52 := R5.1.1.2.1
                  have u53 := R5.2.1.1.1
                  have u54 := R5.2.1.1.2.2.1.1
                  refine mj_aload_n d_Re_readChunk_170 rfl ?_
                  refine mj_iload_n d_Re_readChunk_171 rfl ?_
                  refine mj_aload_n d_Re_readChunk_172 rfl ?_
                  refine mj_get ok_Re (k := 2) (by decide) fl_Re_41 d_Re_readChunk_173 u50 rfl ?_
                  refine mj_cV (S := []) (S1 := [.int (if pi_okN (tk_rd y (rd_go (rd_nx b (nI y) (nI y) x).2 2).2.2.1 (sz < w) (f, (co_rd b (rd_go (rd_nx b (nI y) (nI y) x).2 2).2.2.2 ((rd_go (rd_nx b (nI y) (nI y) x).2 2).2.2.2 + sz) w r s).2.1, p)).2.2 y (rd_go (rd_nx b (nI y) (nI y) x).2 2).2.2.1 = true then 1 else 0)]) (c_Pi_holdsNumbers R5.2.1.1.2.2.1 (y := y) (k := (rd_go (rd_nx b (nI y) (nI y) x).2 2).2.2.1) (by rw [ti.2.2.en, k2]; exact hy) (by rw [k2]; exact hk)) d_Re_readChunk_176 cw_Pi_holdsNumbers ml_Re_113 im_Pi_holdsNumbers se_Pi_holdsNumbers rfl u54 (by decide) rfl (Nat.le_of_ble_eq_true rfl) rfl rfl ?_
                  rcases Bool.eq_false_or_eq_true (pi_okN (tk_rd y (rd_go (rd_nx b (nI y) (nI y) x).2 2).2.2.1 (sz < w) (f, (co_rd b (rd_go (rd_nx b (nI y) (nI y) x).2 2).2.2.2 ((rd_go (rd_nx b (nI y) (nI y) x).2 2).2.2.2 + sz) w r s).2.1, p)).2.2 y (rd_go (rd_nx b (nI y) (nI y) x).2 2).2.2.1) with g9 | g9
                  · rw [show (if pi_okN (tk_rd y (rd_go (rd_nx b (nI y) (nI y) x).2 2).2.2.1 (sz < w) (f, (co_rd b (rd_go (rd_nx b (nI y) (nI y) x).2 2).2.2.2 ((rd_go (rd_nx b (nI y) (nI y) x).2 2).2.2.2 + sz) w r s).2.1, p)).2.2 y (rd_go (rd_nx b (nI y) (nI y) x).2 2).2.2.1 = true then (1 : Int32) else 0) = 1 by rw [g9]; rfl]
                    refine mj_if_ne (tgt := 191) d_Re_readChunk_179 (by decide) (fun _q => ?_) (fun _q => absurd _q (by decide))
                    have er : rd_ck b y x f r s p = (true, (rd_go (rd_go (rd_nx b (nI y) (nI y) x).2 2) sz), (tk_rd y (rd_go (rd_nx b (nI y) (nI y) x).2 2).2.2.1 (sz < w) (f, (co_rd b (rd_go (rd_nx b (nI y) (nI y) x).2 2).2.2.2 ((rd_go (rd_nx b (nI y) (nI y) x).2 2).2.2.2 + sz) w r s).2.1, p)).1, (tk_rd y (rd_go (rd_nx b (nI y) (nI y) x).2 2).2.2.1 (sz < w) (f, (co_rd b (rd_go (rd_nx b (nI y) (nI y) x).2 2).2.2.2 ((rd_go (rd_nx b (nI y) (nI y) x).2 2).2.2.2 + sz) w r s).2.1, p)).2.1, (co_rd b (rd_go (rd_nx b (nI y) (nI y) x).2 2).2.2.2 ((rd_go (rd_nx b (nI y) (nI y) x).2 2).2.2.2 + sz) w r s).2.2, (tk_rd y (rd_go (rd_nx b (nI y) (nI y) x).2 2).2.2.1 (sz < w) (f, (co_rd b (rd_go (rd_nx b (nI y) (nI y) x).2 2).2.2.2 ((rd_go (rd_nx b (nI y) (nI y) x).2 2).2.2.2 + sz) w r s).2.1, p)).2.2) := by rw [ek3]; unfold rd_ckC; rw [if_pos g9]
                    refine mj_iconst (v := 1) d_Re_readChunk_191 (by decide) ?_
                    refine mj_goto (tgt := 196) d_Re_readChunk_192 (by decide) ?_
                    exact mj_zret rfl rfl d_Re_readChunk_196 ⟨by rw [er]; rfl, by rw [er]⟩
                  · rw [show (if pi_okN (tk_rd y (rd_go (rd_nx b (nI y) (nI y) x).2 2).2.2.1 (sz < w) (f, (co_rd b (rd_go (rd_nx b (nI y) (nI y) x).2 2).2.2.2 ((rd_go (rd_nx b (nI y) (nI y) x).2 2).2.2.2 + sz) w r s).2.1, p)).2.2 y (rd_go (rd_nx b (nI y) (nI y) x).2 2).2.2.1 = true then (1 : Int32) else 0) = 0 by rw [g9]; rfl]
                    refine mj_if_ne (tgt := 191) d_Re_readChunk_179 (by decide) (fun _q => absurd rfl _q) (fun _q => ?_)
                    refine mj_aload_n d_Re_readChunk_182 rfl ?_
                    refine mj_iload d_Re_readChunk_183 rfl ?_
                    refine mj_cV (S := []) (S1 := [.int 0]) (c_Re_failsAt R5.1 (nI x.2.2.2)) d_Re_readChunk_185 cw_Re_failsAt ml_Re_60 im_Re_failsAt se_Re_failsAt rfl u50 (by decide) rfl (Nat.le_of_ble_eq_true rfl) rfl rfl ?_
                    rw [R5.x, R.uu bd5 bd5]
                    have er : rd_ck b y x f r s p = (false, rd_fl (rd_go (rd_go (rd_nx b (nI y) (nI y) x).2 2) sz) (nI x.2.2.2), (tk_rd y (rd_go (rd_nx b (nI y) (nI y) x).2 2).2.2.1 (sz < w) (f, (co_rd b (rd_go (rd_nx b (nI y) (nI y) x).2 2).2.2.2 ((rd_go (rd_nx b (nI y) (nI y) x).2 2).2.2.2 + sz) w r s).2.1, p)).1, (tk_rd y (rd_go (rd_nx b (nI y) (nI y) x).2 2).2.2.1 (sz < w) (f, (co_rd b (rd_go (rd_nx b (nI y) (nI y) x).2 2).2.2.2 ((rd_go (rd_nx b (nI y) (nI y) x).2 2).2.2.2 + sz) w r s).2.1, p)).2.1, (co_rd b (rd_go (rd_nx b (nI y) (nI y) x).2 2).2.2.2 ((rd_go (rd_nx b (nI y) (nI y) x).2 2).2.2.2 + sz) w r s).2.2, (tk_rd y (rd_go (rd_nx b (nI y) (nI y) x).2 2).2.2.1 (sz < w) (f, (co_rd b (rd_go (rd_nx b (nI y) (nI y) x).2 2).2.2.2 ((rd_go (rd_nx b (nI y) (nI y) x).2 2).2.2.2 + sz) w r s).2.1, p)).2.2) := by rw [ek3]; unfold rd_ckC; rw [if_neg (by rw [g9]; decide)]
                    refine mj_if_eq (tgt := 195) d_Re_readChunk_188 (by decide) (fun _q => ?_) (fun _q => absurd rfl _q)
                    refine mj_iconst (v := 0) d_Re_readChunk_195 (by decide) ?_
                    exact mj_zret rfl rfl d_Re_readChunk_196 ⟨by rw [er]; rfl, by rw [er]⟩
                · refine mj_iconst (v := 1) d_Re_readChunk_162 (by decide) ?_
                  refine mj_goto (tgt := 167) d_Re_readChunk_163 (by decide) ?_
                  have hs : sz < w := by
                    rcases Nat.lt_or_ge (sz) (w) with q | q
                    · exact q
                    · exact absurd (nI_le q (by omega)) c_159
                  refine mj_cV (S := []) (S1 := []) (c_Co_takeReady R4.2.1 (by rw [cu]; exact Nat.zero_le _) (y := y) (k := (rd_go (rd_nx b (nI y) (nI y) x).2 2).2.2.1) True (by rw [k2]; exact hy) (by rw [k2]; exact hk)) d_Re_readChunk_167 cw_Co_takeReady ml_Re_109 im_Co_takeReady se_Co_takeReady rfl u43 (by decide) rfl (Nat.le_of_ble_eq_true rfl) rfl rfl ?_
                  rw [R4.t, tk_rd_pk (pk := True) (pk' := sz < w) ⟨fun _ => hs, fun _ => trivial⟩]
                  have ti := tk_rd_in y (rd_go (rd_nx b (nI y) (nI y) x).2 2).2.2.1 (sz < w) f (co_rd b (rd_go (rd_nx b (nI y) (nI y) x).2 2).2.2.2 ((rd_go (rd_nx b (nI y) (nI y) x).2 2).2.2.2 + sz) w r s).2.1 p cl.1 (by rw [cu]; exact Nat.zero_le _)
                  have bd5 : pi_bd (tk_rd y (rd_go (rd_nx b (nI y) (nI y) x).2 2).2.2.1 (sz < w) (f, (co_rd b (rd_go (rd_nx b (nI y) (nI y) x).2 2).2.2.2 ((rd_go (rd_nx b (nI y) (nI y) x).2 2).2.2.2 + sz) w r s).2.1, p)).2.2 := ti.2.2.bd bd
                  rw [R.uu bd bd5]
                  have R5 : Rr (rr_up h a l t st m (rd_go (rd_go (rd_nx b (nI y) (nI y) x).2 2) sz) (tk_rd y (rd_go (rd_nx b (nI y) (nI y) x).2 2).2.2.1 (sz < w) (f, (co_rd b (rd_go (rd_nx b (nI y) (nI y) x).2 2).2.2.2 ((rd_go (rd_nx b (nI y) (nI y) x).2 2).2.2.2 + sz) w r s).2.1, p)).1 (tk_rd y (rd_go (rd_nx b (nI y) (nI y) x).2 2).2.2.1 (sz < w) (f, (co_rd b (rd_go (rd_nx b (nI y) (nI y) x).2 2).2.2.2 ((rd_go (rd_nx b (nI y) (nI y) x).2 2).2.2.2 + sz) w r s).2.1, p)).2.1 (co_rd b (rd_go (rd_nx b (nI y) (nI y) x).2 2).2.2.2 ((rd_go (rd_nx b (nI y) (nI y) x).2 2).2.2.2 + sz) w r s).2.2 q (tk_rd y (rd_go (rd_nx b (nI y) (nI y) x).2 2).2.2.1 (sz < w) (f, (co_rd b (rd_go (rd_nx b (nI y) (nI y) x).2 2).2.2.2 ((rd_go (rd_nx b (nI y) (nI y) x).2 2).2.2.2 + sz) w r s).2.1, p)).2.2) b (rd_go (rd_go (rd_nx b (nI y) (nI y) x).2 2) sz) (tk_rd y (rd_go (rd_nx b (nI y) (nI y) x).2 2).2.2.1 (sz < w) (f, (co_rd b (rd_go (rd_nx b (nI y) (nI y) x).2 2).2.2.2 ((rd_go (rd_nx b (nI y) (nI y) x).2 2).2.2.2 + sz) w r s).2.1, p)).1 (tk_rd y (rd_go (rd_nx b (nI y) (nI y) x).2 2).2.2.1 (sz < w) (f, (co_rd b (rd_go (rd_nx b (nI y) (nI y) x).2 2).2.2.2 ((rd_go (rd_nx b (nI y) (nI y) x).2 2).2.2.2 + sz) w r s).2.1, p)).2.1 (co_rd b (rd_go (rd_nx b (nI y) (nI y) x).2 2).2.2.2 ((rd_go (rd_nx b (nI y) (nI y) x).2 2).2.2.2 + sz) w r s).2.2 q a l t st m (tk_rd y (rd_go (rd_nx b (nI y) (nI y) x).2 2).2.2.1 (sz < w) (f, (co_rd b (rd_go (rd_nx b (nI y) (nI y) x).2 2).2.2.2 ((rd_go (rd_nx b (nI y) (nI y) x).2 2).2.2.2 + sz) w r s).2.1, p)).2.2 := R.up ti.1 cl.2 q3 bd5 (ti.2.2.ok hok)
                  have u50 := R5.1.2
                  have u51 := R5.1.1.1
                  have u52 := R5.1.1.2.1
                  have u53 := R5.2.1.1.1
                  have u54 := R5.2.1.1.2.2.1.1
                  refine mj_aload_n d_Re_readChunk_170 rfl ?_
                  refine mj_iload_n d_Re_readChunk_171 rfl ?_
                  refine mj_aload_n d_Re_readChunk_172 rfl ?_
                  refine mj_get ok_Re (k := 2) (by decide) fl_Re_41 d_Re_readChunk_173 u50 rfl ?_
                  refine mj_cV (S := []) (S1 := [.int (if pi_okN (tk_rd y (rd_go (rd_nx b (nI y) (nI y) x).2 2).2.2.1 (sz < w) (f, (co_rd b (rd_go (rd_nx b (nI y) (nI y) x).2 2).2.2.2 ((rd_go (rd_nx b (nI y) (nI y) x).2 2).2.2.2 + sz) w r s).2.1, p)).2.2 y (rd_go (rd_nx b (nI y) (nI y) x).2 2).2.2.1 = true then 1 else 0)]) (c_Pi_holdsNumbers R5.2.1.1.2.2.1 (y := y) (k := (rd_go (rd_nx b (nI y) (nI y) x).2 2).2.2.1) (by rw [ti.2.2.en, k2]; exact hy) (by rw [k2]; exact hk)) d_Re_readChunk_176 cw_Pi_holdsNumbers ml_Re_113 im_Pi_holdsNumbers se_Pi_holdsNumbers rfl u54 (by decide) rfl (Nat.le_of_ble_eq_true rfl) rfl rfl ?_
                  rcases Bool.eq_false_or_eq_true (pi_okN (tk_rd y (rd_go (rd_nx b (nI y) (nI y) x).2 2).2.2.1 (sz < w) (f, (co_rd b (rd_go (rd_nx b (nI y) (nI y) x).2 2).2.2.2 ((rd_go (rd_nx b (nI y) (nI y) x).2 2).2.2.2 + sz) w r s).2.1, p)).2.2 y (rd_go (rd_nx b (nI y) (nI y) x).2 2).2.2.1) with g9 | g9
                  · rw [show (if pi_okN (tk_rd y (rd_go (rd_nx b (nI y) (nI y) x).2 2).2.2.1 (sz < w) (f, (co_rd b (rd_go (rd_nx b (nI y) (nI y) x).2 2).2.2.2 ((rd_go (rd_nx b (nI y) (nI y) x).2 2).2.2.2 + sz) w r s).2.1, p)).2.2 y (rd_go (rd_nx b (nI y) (nI y) x).2 2).2.2.1 = true then (1 : Int32) else 0) = 1 by rw [g9]; rfl]
                    refine mj_if_ne (tgt := 191) d_Re_readChunk_179 (by decide) (fun _q => ?_) (fun _q => absurd _q (by decide))
                    have er : rd_ck b y x f r s p = (true, (rd_go (rd_go (rd_nx b (nI y) (nI y) x).2 2) sz), (tk_rd y (rd_go (rd_nx b (nI y) (nI y) x).2 2).2.2.1 (sz < w) (f, (co_rd b (rd_go (rd_nx b (nI y) (nI y) x).2 2).2.2.2 ((rd_go (rd_nx b (nI y) (nI y) x).2 2).2.2.2 + sz) w r s).2.1, p)).1, (tk_rd y (rd_go (rd_nx b (nI y) (nI y) x).2 2).2.2.1 (sz < w) (f, (co_rd b (rd_go (rd_nx b (nI y) (nI y) x).2 2).2.2.2 ((rd_go (rd_nx b (nI y) (nI y) x).2 2).2.2.2 + sz) w r s).2.1, p)).2.1, (co_rd b (rd_go (rd_nx b (nI y) (nI y) x).2 2).2.2.2 ((rd_go (rd_nx b (nI y) (nI y) x).2 2).2.2.2 + sz) w r s).2.2, (tk_rd y (rd_go (rd_nx b (nI y) (nI y) x).2 2).2.2.1 (sz < w) (f, (co_rd b (rd_go (rd_nx b (nI y) (nI y) x).2 2).2.2.2 ((rd_go (rd_nx b (nI y) (nI y) x).2 2).2.2.2 + sz) w r s).2.1, p)).2.2) := by rw [ek3]; unfold rd_ckC; rw [if_pos g9]
                    refine mj_iconst (v := 1) d_Re_readChunk_191 (by decide) ?_
                    refine mj_goto (tgt := 196) d_Re_readChunk_192 (by decide) ?_
                    exact mj_zret rfl rfl d_Re_readChunk_196 ⟨by rw [er]; rfl, by rw [er]⟩
                  · rw [show (if pi_okN (tk_rd y (rd_go (rd_nx b (nI y) (nI y) x).2 2).2.2.1 (sz < w) (f, (co_rd b (rd_go (rd_nx b (nI y) (nI y) x).2 2).2.2.2 ((rd_go (rd_nx b (nI y) (nI y) x).2 2).2.2.2 + sz) w r s).2.1, p)).2.2 y (rd_go (rd_nx b (nI y) (nI y) x).2 2).2.2.1 = true then (1 : Int32) else 0) = 0 by rw [g9]; rfl]
                    refine mj_if_ne (tgt := 191) d_Re_readChunk_179 (by decide) (fun _q => absurd rfl _q) (fun _q => ?_)
                    refine mj_aload_n d_Re_readChunk_182 rfl ?_
                    refine mj_iload d_Re_readChunk_183 rfl ?_
                    refine mj_cV (S := []) (S1 := [.int 0]) (c_Re_failsAt R5.1 (nI x.2.2.2)) d_Re_readChunk_185 cw_Re_failsAt ml_Re_60 im_Re_failsAt se_Re_failsAt rfl u50 (by decide) rfl (Nat.le_of_ble_eq_true rfl) rfl rfl ?_
                    rw [R5.x, R.uu bd5 bd5]
                    have er : rd_ck b y x f r s p = (false, rd_fl (rd_go (rd_go (rd_nx b (nI y) (nI y) x).2 2) sz) (nI x.2.2.2), (tk_rd y (rd_go (rd_nx b (nI y) (nI y) x).2 2).2.2.1 (sz < w) (f, (co_rd b (rd_go (rd_nx b (nI y) (nI y) x).2 2).2.2.2 ((rd_go (rd_nx b (nI y) (nI y) x).2 2).2.2.2 + sz) w r s).2.1, p)).1, (tk_rd y (rd_go (rd_nx b (nI y) (nI y) x).2 2).2.2.1 (sz < w) (f, (co_rd b (rd_go (rd_nx b (nI y) (nI y) x).2 2).2.2.2 ((rd_go (rd_nx b (nI y) (nI y) x).2 2).2.2.2 + sz) w r s).2.1, p)).2.1, (co_rd b (rd_go (rd_nx b (nI y) (nI y) x).2 2).2.2.2 ((rd_go (rd_nx b (nI y) (nI y) x).2 2).2.2.2 + sz) w r s).2.2, (tk_rd y (rd_go (rd_nx b (nI y) (nI y) x).2 2).2.2.1 (sz < w) (f, (co_rd b (rd_go (rd_nx b (nI y) (nI y) x).2 2).2.2.2 ((rd_go (rd_nx b (nI y) (nI y) x).2 2).2.2.2 + sz) w r s).2.1, p)).2.2) := by rw [ek3]; unfold rd_ckC; rw [if_neg (by rw [g9]; decide)]
                    refine mj_if_eq (tgt := 195) d_Re_readChunk_188 (by decide) (fun _q => ?_) (fun _q => absurd rfl _q)
                    refine mj_iconst (v := 0) d_Re_readChunk_195 (by decide) ?_
                    exact mj_zret rfl rfl d_Re_readChunk_196 ⟨by rw [er]; rfl, by rw [er]⟩
              · rw [e_v11] at c_127
                have er : rd_ck b y x f r s p = (false, rd_fl (rd_go (rd_nx b (nI y) (nI y) x).2 2) v11, f, (co_rd b (rd_go (rd_nx b (nI y) (nI y) x).2 2).2.2.2 ((rd_go (rd_nx b (nI y) (nI y) x).2 2).2.2.2 + sz) w r s).2.1, (co_rd b (rd_go (rd_nx b (nI y) (nI y) x).2 2).2.2.2 ((rd_go (rd_nx b (nI y) (nI y) x).2 2).2.2.2 + sz) w r s).2.2, p) := by rw [ek2]; unfold rd_ckB; rw [if_neg c_127, e_v11]
                refine mj_aload_n d_Re_readChunk_130 rfl ?_
                refine mj_iload d_Re_readChunk_131 rfl ?_
                refine mj_cV (S := []) (S1 := [.int 0]) (c_Re_failsAt R3.1 v11) d_Re_readChunk_133 cw_Re_failsAt ml_Re_60 im_Re_failsAt se_Re_failsAt rfl u30 (by decide) rfl (Nat.le_of_ble_eq_true rfl) rfl rfl ?_
                rw [R3.x, R.uu bd bd]
                exact mj_zret rfl rfl d_Re_readChunk_136 ⟨by rw [er]; rfl, by rw [er]⟩
          · have k0 : x.2.2.1 = 0 := by have e0 := c_60; rw [q1.2, show (0 : Int32) = nI 0 from rfl, nI_eq (by omega) (by decide)] at e0; exact e0
            have hlt : sz < w := by
              rcases Nat.lt_or_ge (sz) (w) with q | q
              · exact q
              · exact absurd (nI_le q (by omega)) c_67
            have g2 : w < sz ∨ (x.2.2.1 = 0 ∧ sz < w) := Or.inr ⟨k0, hlt⟩
            have er : rd_ck b y x f r s p = (false, rd_fl (rd_nx b (nI y) (nI y) x).2 (nI (rd_nx b (nI y) (nI y) x).2.2.2.2), f, r, s, p) := by rw [ek]; unfold rd_ckA; rw [if_neg l17, q1.2, ← esz, ← ew, if_pos g2]
            refine mj_aload_n d_Re_readChunk_70 rfl ?_
            refine mj_aload_n d_Re_readChunk_71 rfl ?_
            refine mj_get ok_Re (k := 4) (by decide) fl_Re_24 d_Re_readChunk_72 u10 rfl ?_
            refine mj_cV (S := []) (S1 := [.int 0]) (c_Re_failsAt R1.1 (nI (rd_nx b (nI y) (nI y) x).2.2.2.2)) d_Re_readChunk_75 cw_Re_failsAt ml_Re_60 im_Re_failsAt se_Re_failsAt rfl u10 (by decide) rfl (Nat.le_of_ble_eq_true rfl) rfl rfl ?_
            rw [R1.x, R.uu bd bd]
            exact mj_zret rfl rfl d_Re_readChunk_78 ⟨by rw [er]; rfl, by rw [er]⟩
  · rw [show (if (rd_nx b (nI y) (nI y) x).1 = true then (1 : Int32) else 0) = 0 by rw [g1]; rfl]
    refine mj_if_eq (tgt := 23) d_Re_readChunk_12 (by decide) (fun _q => ?_) (fun _q => absurd rfl _q)
    have er : rd_ck b y x f r s p = (false, (rd_nx b (nI y) (nI y) x).2, f, r, s, p) := by unfold rd_ck; rw [if_neg (by rw [g1]; decide)]
    refine mj_iconst (v := 0) d_Re_readChunk_23 (by decide) ?_
    exact mj_zret rfl rfl d_Re_readChunk_24 ⟨by rw [er]; rfl, by rw [er]⟩
