theorem Cf.sk {h : mj_H} {f : Nat → Int32} {r s k : by_B} {a l t st m : Nat} {p : pi_P} (C : Cf h f r s k a l t st m p) {s' k' : by_B} : by_up (by_up h 9 10 384 s') 6 7 400 k' = cf_up h f r s' k' := by
  have q := cf_sk (h := h) (f := f) (r := r) (s := s) (s' := s') (k := k) (k' := k')
  rw [C.idn] at q
  exact q
theorem Cf.rr {h : mj_H} {f : Nat → Int32} {r s k : by_B} {a l t st m : Nat} {p : pi_P} (C : Cf h f r s k a l t st m p) {r' : by_B} : by_up h 4 5 384 r' = cf_up h f r' s k := by
  have q := cf_r (h := h) (f := f) (r := r) (r' := r') (s := s) (k := k)
  rw [C.idn] at q
  exact q
theorem Cf.tbb {h : mj_H} {f : Nat → Int32} {r s k : by_B} {a l t st m : Nat} {p : pi_P} (C : Cf h f r s k a l t st m p) {f' : Nat → Int32} {r' : by_B} : tb_up h f' r' = cf_up h f' r' s k := by
  have q := cf_tb (h := h) (f := f) (f' := f') (r := r) (r' := r') (s := s) (k := k)
  rw [C.idn] at q
  exact q
def co_mk1 (p : pi_P) (k y : Nat) (f : Nat → Int32) (r : by_B) : (Nat → Int32) × by_B := if k = 3 then co_tbs p y f r else (f, co_lns p y k (if k = 2 then 1 else 0) r)
def co_mk2 (p : pi_P) (k y : Nat) (r s q : by_B) : Nat × by_B × by_B × by_B := if k = 0 then (4, r, s, q) else if (pa_pk 400 r s q).1 < r.1 then (6, r, pa_ds r s, pa_pk 400 r s q) else (4, co_lns p y k 0 r, pa_ds r s, pa_pk 400 r s q)
theorem co_mk1_le (p : pi_P) (k y : Nat) (f : Nat → Int32) (r : by_B) : (co_mk1 p k y f r).2.1 ≤ 384 := by
  unfold co_mk1
  split
  · exact co_tbs_le _ _ _ _
  · exact co_lns_le _ _ _ _ _
theorem co_mk2_le (p : pi_P) (k y : Nat) (r s q : by_B) (hr : r.1 ≤ 384) (hs : s.1 ≤ 384) (hq : q.1 ≤ 400) : (co_mk2 p k y r s q).2.1.1 ≤ 384 ∧ (co_mk2 p k y r s q).2.2.1.1 ≤ 384 ∧ (co_mk2 p k y r s q).2.2.2.1 ≤ 400 := by
  unfold co_mk2
  split
  · exact ⟨hr, hs, hq⟩
  · split
    · exact ⟨hr, pa_ds_le _ _, pa_pk_le _ _ _ _⟩
    · exact ⟨co_lns_le _ _ _ _ _, pa_ds_le _ _, pa_pk_le _ _ _ _⟩
set_option maxRecDepth 100000 in
set_option maxHeartbeats 4000000 in
theorem w_Co_make {h : mj_H} {f : Nat → Int32} {r s q : by_B} {a l t st m : Nat} {p : pi_P} (C : Cf h f r s q a l t st m p) {y k : Nat} (hy : y ≤ pi_end p y k) (hk : k < 4) : mj_W M_Co_make (mj_q (some (.ref (co_mk2 p k y r s q).1)) (cf_up h f (co_mk2 p k y r s q).2.1 (co_mk2 p k y r s q).2.2.1 (co_mk2 p k y r s q).2.2.2)) (4, 104, none) 0 0 31 [some (.ref 3), some (.ref a), some (.int (nI k)), some (.int (nI y))] [] h := by
  obtain ⟨⟨⟨c0, ⟨b1, b2, b3, b4⟩, ⟨h1, h2, h3, h4, h5, ⟨n1, n2, n3, n4, n5, n6⟩, w1, w2, w3⟩, ⟨z1, z2, z3, z4, z5⟩, hok⟩, ⟨wa, wb⟩⟩, ⟨k0, k1, k2, k3, k4⟩, ⟨q1, q2, q3, q4⟩⟩ := id C
  refine mj_iload_n d_Co_make_31 rfl ?_
  refine mj_if_ne (tgt := 40) d_Co_make_32 (by decide) (fun c_32 => ?_) (fun c_32 => ?_)
  · have g0 : ¬ k = 0 := fun e0 => c_32 (by rw [e0]; rfl)
    refine mj_aload_n d_Co_make_40 rfl ?_
    refine mj_get ok_Co (k := 2) (by decide) fl_Co_26 d_Co_make_41 c0 rfl ?_
    refine mj_aload_n d_Co_make_44 rfl ?_
    refine mj_get ok_Co (k := 0) (by decide) fl_Co_14 d_Co_make_45 c0 rfl ?_
    refine mj_aload_n d_Co_make_48 rfl ?_
    refine mj_get ok_Co (k := 1) (by decide) fl_Co_20 d_Co_make_49 c0 rfl ?_
    refine mj_cV (S := []) (S1 := []) (c_Pa_pack C.2.1 C.1.1.2.1 C.2.2 (by decide) (by decide) (by decide) (by decide) (by omega)) d_Co_make_52 cw_Pa_pack ml_Co_45 im_Pa_pack se_Pa_pack rfl k0 (by decide) rfl (Nat.le_of_ble_eq_true rfl) rfl rfl ?_
    rw [C.sk]
    have C1 := C.up (f' := f) (r' := r) (s' := pa_ds r s) (k' := pa_pk 400 r s q) b3 (pa_ds_le _ _) (pa_pk_le _ _ _ _)
    obtain ⟨⟨⟨d0, ⟨d1, d2, d3, d4⟩, -⟩, -⟩, -, ⟨e1, e2, e3, e4⟩⟩ := id C1
    refine mj_aload_n d_Co_make_55 rfl ?_
    refine mj_get ok_Co (k := 1) (by decide) fl_Co_20 d_Co_make_56 d0 rfl ?_
    refine mj_get ok_By (k := 1) (by decide) fl_Co_49 d_Co_make_59 e1 rfl ?_
    refine mj_aload_n d_Co_make_62 rfl ?_
    refine mj_get ok_Co (k := 0) (by decide) fl_Co_14 d_Co_make_63 d0 rfl ?_
    refine mj_get ok_By (k := 1) (by decide) fl_Co_49 d_Co_make_66 d1 rfl ?_
    refine mj_icmp_ge (tgt := 77) d_Co_make_69 (by decide) (fun c_69 => ?_) (fun c_69 => ?_)
    · have hge : ¬ (pa_pk 400 r s q).1 < r.1 := fun e0 => nI_ge e0 (by omega) c_69
      have er : co_mk2 p k y r s q = (4, co_lns p y k 0 r, pa_ds r s, pa_pk 400 r s q) := by unfold co_mk2; rw [if_neg g0]; exact if_neg hge
      refine mj_aload_n d_Co_make_77 rfl ?_
      refine mj_aload_n d_Co_make_78 rfl ?_
      refine mj_iload_n d_Co_make_79 rfl ?_
      refine mj_iload_n d_Co_make_80 rfl ?_
      refine mj_iconst (v := 0) d_Co_make_81 (by decide) ?_
      refine mj_cV (S := []) (S1 := []) (c_Co_putLines C1.1.1 (y := y) (k := k) 0 hy hk) d_Co_make_82 cw_Co_putLines ml_Co_41 im_Co_putLines se_Co_putLines rfl d0 (by decide) rfl (Nat.le_of_ble_eq_true rfl) rfl rfl ?_
      have C2 := C1.1.1.up (r' := co_lns p y k 0 r) (co_lns_le _ _ _ _ _)
      have f0 := C2.1
      refine mj_aload_n d_Co_make_85 rfl ?_
      refine mj_get ok_Co (k := 0) (by decide) fl_Co_14 d_Co_make_86 f0 rfl ?_
      exact mj_aret (C := "RasterForge$Bytes") rfl d_Co_make_89 ⟨by rw [er], by rw [er]; exact cf_r⟩
    · have hlt : (pa_pk 400 r s q).1 < r.1 := by
        rcases Nat.lt_or_ge ((pa_pk 400 r s q).1) (r.1) with q | q
        · exact q
        · exact absurd (nI_le q (by omega)) c_69
      have er : co_mk2 p k y r s q = (6, r, pa_ds r s, pa_pk 400 r s q) := by unfold co_mk2; rw [if_neg g0]; exact if_pos hlt
      refine mj_aload_n d_Co_make_72 rfl ?_
      refine mj_get ok_Co (k := 1) (by decide) fl_Co_20 d_Co_make_73 d0 rfl ?_
      exact mj_aret (C := "RasterForge$Bytes") rfl d_Co_make_76 ⟨by rw [er], by rw [er]⟩
  · have g0 : k = 0 := by have e0 := c_32; rw [show (0 : Int32) = nI 0 from rfl, nI_eq (by omega) (by decide)] at e0; exact e0
    have er : co_mk2 p k y r s q = (4, r, s, q) := by unfold co_mk2; exact if_pos g0
    refine mj_aload_n d_Co_make_35 rfl ?_
    refine mj_get ok_Co (k := 0) (by decide) fl_Co_14 d_Co_make_36 c0 rfl ?_
    exact mj_aret (C := "RasterForge$Bytes") rfl d_Co_make_39 ⟨by rw [er], by rw [er]; exact C.idn.symm⟩
set_option maxRecDepth 100000 in
set_option maxHeartbeats 4000000 in
theorem c_Co_make {h : mj_H} {f : Nat → Int32} {r s q : by_B} {a l t st m : Nat} {p : pi_P} (C : Cf h f r s q a l t st m p) {y k : Nat} (hy : y ≤ pi_end p y k) (hk : k < 4) : mj_Met M_Co_make (4, 104, none) 0 0 [.ref 3, .ref a, .int (nI k), .int (nI y)] h (mj_q (some (.ref (co_mk2 p k y (co_mk1 p k y f r).2 s q).1)) (cf_up h (co_mk1 p k y f r).1 (co_mk2 p k y (co_mk1 p k y f r).2 s q).2.1 (co_mk2 p k y (co_mk1 p k y f r).2 s q).2.2.1 (co_mk2 p k y (co_mk1 p k y f r).2 s q).2.2.2)) := by
  obtain ⟨⟨⟨c0, ⟨b1, b2, b3, b4⟩, ⟨h1, h2, h3, h4, h5, ⟨n1, n2, n3, n4, n5, n6⟩, w1, w2, w3⟩, ⟨z1, z2, z3, z4, z5⟩, hok⟩, ⟨wa, wb⟩⟩, ⟨k0, k1, k2, k3, k4⟩, ⟨q1, q2, q3, q4⟩⟩ := id C
  refine mj_enter (r := 0) rfl rfl (by decide) rfl ?_
  show mj_W M_Co_make _ _ _ _ 0 [some (.ref 3), some (.ref a), some (.int (nI k)), some (.int (nI y))] [] h
  refine mj_iload_n d_Co_make_0 rfl ?_
  refine mj_iconst (v := 3) d_Co_make_1 (by decide) ?_
  refine mj_icmp_ne (tgt := 14) d_Co_make_2 (by decide) (fun c_2 => ?_) (fun c_2 => ?_)
  · have g3 : ¬ k = 3 := fun e0 => c_2 (by rw [e0]; rfl)
    refine mj_aload_n d_Co_make_14 rfl ?_
    refine mj_aload_n d_Co_make_15 rfl ?_
    refine mj_iload_n d_Co_make_16 rfl ?_
    refine mj_iload_n d_Co_make_17 rfl ?_
    refine mj_iload_n d_Co_make_18 rfl ?_
    refine mj_iconst (v := 2) d_Co_make_19 (by decide) ?_
    refine mj_icmp_ne (tgt := 27) d_Co_make_20 (by decide) (fun c_20 => ?_) (fun c_20 => ?_)
    · refine mj_iconst (v := 0) d_Co_make_27 (by decide) ?_
      have g2 : ¬ k = 2 := fun e0 => c_20 (by rw [e0]; rfl)
      have em : co_mk1 p k y f r = (f, co_lns p y k 0 r) := by unfold co_mk1; rw [if_neg g3, if_neg g2]
      refine mj_cV (S := []) (S1 := []) (c_Co_putLines C.1.1 (y := y) (k := k) 0 hy hk) d_Co_make_28 cw_Co_putLines ml_Co_41 im_Co_putLines se_Co_putLines rfl c0 (by decide) rfl (Nat.le_of_ble_eq_true rfl) rfl rfl ?_
      rw [C.rr]
      have C1 := C.up (f' := (co_mk1 p k y f r).1) (r' := (co_mk1 p k y f r).2) (s' := s) (k' := q) (co_mk1_le _ _ _ _ _) k3 q3
      have ww := w_Co_make C1 (y := y) (k := k) hy hk
      rw [cf_uu] at ww
      rw [em] at ww ⊢
      exact ww
    · refine mj_iconst (v := 1) d_Co_make_23 (by decide) ?_
      refine mj_goto (tgt := 28) d_Co_make_24 (by decide) ?_
      have g2 : k = 2 := by have e0 := c_20; rw [show (2 : Int32) = nI 2 from rfl, nI_eq (by omega) (by decide)] at e0; exact e0
      have em : co_mk1 p k y f r = (f, co_lns p y k 1 r) := by unfold co_mk1; rw [if_neg g3, if_pos g2]
      refine mj_cV (S := []) (S1 := []) (c_Co_putLines C.1.1 (y := y) (k := k) 1 hy hk) d_Co_make_28 cw_Co_putLines ml_Co_41 im_Co_putLines se_Co_putLines rfl c0 (by decide) rfl (Nat.le_of_ble_eq_true rfl) rfl rfl ?_
      rw [C.rr]
      have C1 := C.up (f' := (co_mk1 p k y f r).1) (r' := (co_mk1 p k y f r).2) (s' := s) (k' := q) (co_mk1_le _ _ _ _ _) k3 q3
      have ww := w_Co_make C1 (y := y) (k := k) hy hk
      rw [cf_uu] at ww
      rw [em] at ww ⊢
      exact ww
  · refine mj_aload_n d_Co_make_5 rfl ?_
    refine mj_aload_n d_Co_make_6 rfl ?_
    refine mj_iload_n d_Co_make_7 rfl ?_
    have g3 : k = 3 := by have e0 := c_2; rw [show (3 : Int32) = nI 3 from rfl, nI_eq (by omega) (by decide)] at e0; exact e0
    have em : co_mk1 p k y f r = co_tbs p y f r := by unfold co_mk1; exact if_pos g3
    refine mj_cV (S := []) (S1 := []) (c_Co_putTables C.1 (y := y) (by rw [g3] at hy; exact hy)) d_Co_make_8 cw_Co_putTables ml_Co_37 im_Co_putTables se_Co_putTables rfl c0 (by decide) rfl (Nat.le_of_ble_eq_true rfl) rfl rfl ?_
    rw [C.tbb, ← em]
    refine mj_goto (tgt := 31) d_Co_make_11 (by decide) ?_
    have C1 := C.up (f' := (co_mk1 p k y f r).1) (r' := (co_mk1 p k y f r).2) (s' := s) (k' := q) (co_mk1_le _ _ _ _ _) k3 q3
    have ww := w_Co_make C1 (y := y) (k := k) hy hk
    rw [cf_uu] at ww
    exact ww
def co_rd (b : by_B) (st e w : Nat) (r s : by_B) : Int32 × by_B × by_B := if e - st < w then ((pa_upk 384 b st e w s r).1, (pa_upk 384 b st e w s r).2.2, (pa_upk 384 b st e w s r).2.1) else (-2, by_addP 384 b (e - st) st (0, 0, r.2.2), s)
theorem co_rd_le (b : by_B) (st e w : Nat) (r s : by_B) (hr : r.1 ≤ 384) (hs : s.1 ≤ 384) : (co_rd b st e w r s).2.1.1 ≤ 384 ∧ (co_rd b st e w r s).2.2.1 ≤ 384 := by
  unfold co_rd
  split
  · exact ⟨(pa_upk_le _ _ _ _ _ _ _ hr).2, (pa_upk_le _ _ _ _ _ _ _ hr).1⟩
  · exact ⟨by_addP_le _ _ _ _ (Nat.zero_le _), hs⟩
theorem Cf.rs {h : mj_H} {f : Nat → Int32} {r s k : by_B} {a l t st m : Nat} {p : pi_P} (C : Cf h f r s k a l t st m p) {r' s' : by_B} : by_up (by_up h 9 10 384 s') 4 5 384 r' = cf_up h f r' s' k := by
  have q : by_up (by_up (cf_up h f r s k) 9 10 384 s') 4 5 384 r' = cf_up h f r' s' k := by
    unfold cf_up tb_up by_up wv_up
    rw [List.set_comm _ _ (show (7 : Nat) ≠ 9 by decide), List.set_comm _ _ (show (6 : Nat) ≠ 9 by decide), List.set_comm _ _ (show (10 : Nat) ≠ 9 by decide), List.set_set, List.set_comm _ _ (show (7 : Nat) ≠ 10 by decide), List.set_comm _ _ (show (6 : Nat) ≠ 10 by decide), List.set_set, List.set_comm _ _ (show (7 : Nat) ≠ 4 by decide), List.set_comm _ _ (show (6 : Nat) ≠ 4 by decide), List.set_comm _ _ (show (10 : Nat) ≠ 4 by decide), List.set_comm _ _ (show (9 : Nat) ≠ 4 by decide), List.set_comm _ _ (show (5 : Nat) ≠ 4 by decide), List.set_set, List.set_comm _ _ (show (7 : Nat) ≠ 5 by decide), List.set_comm _ _ (show (6 : Nat) ≠ 5 by decide), List.set_comm _ _ (show (10 : Nat) ≠ 5 by decide), List.set_comm _ _ (show (9 : Nat) ≠ 5 by decide), List.set_set]
  rw [C.idn] at q
  exact q
set_option maxRecDepth 100000 in
set_option maxHeartbeats 4000000 in
theorem c_Co_makeReady {h : mj_H} {f : Nat → Int32} {r s q : by_B} {a l t st m : Nat} {p : pi_P} (C : Cf h f r s q a l t st m p) {fa fc n2 : Nat} {b : by_B} (B : By h fa fc n2 b) (hf4 : fa ≠ 4) (hf5 : fc ≠ 5) (hf9 : fa ≠ 9) (hf10 : fc ≠ 10) (hok2 : by_ok b) {x e w : Nat} (hxe : x ≤ e) (he : e ≤ b.1) (hb2 : b.1 < 2 ^ 29) (hw : w < 2 ^ 29) : mj_Met M_Co_makeReady (3, 75, none) 0 0 [.ref 3, .ref fa, .int (nI x), .int (nI e), .int (nI w)] h (mj_q (some (.int (co_rd b x e w r s).1)) (cf_up h f (co_rd b x e w r s).2.1 (co_rd b x e w r s).2.2 q)) := by
  obtain ⟨⟨⟨c0, ⟨b1, b2, b3, b4⟩, ⟨h1, h2, h3, h4, h5, ⟨n1, n2, n3, n4, n5, n6⟩, w1, w2, w3⟩, ⟨z1, z2, z3, z4, z5⟩, hok⟩, ⟨wa, wb⟩⟩, ⟨k0, k1, k2, k3, k4⟩, ⟨q1, q2, q3, q4⟩⟩ := id C
  obtain ⟨g1, g2, g3, g4⟩ := id B
  refine mj_enter (r := 0) rfl rfl (by decide) rfl ?_
  show mj_W M_Co_makeReady _ _ _ _ 0 [some (.ref 3), some (.ref fa), some (.int (nI x)), some (.int (nI e)), some (.int (nI w))] [] h
  refine mj_iload_n d_Co_makeReady_0 rfl ?_
  refine mj_iload_n d_Co_makeReady_1 rfl ?_
  refine mj_isub d_Co_makeReady_2 ?_
  refine mj_iload d_Co_makeReady_3 rfl ?_
  rw [pk_sub hxe]
  refine mj_icmp_ge (tgt := 25) d_Co_makeReady_5 (by decide) (fun c_5 => ?_) (fun c_5 => ?_)
  · have hge : ¬ e - x < w := fun e0 => nI_ge e0 (by omega) c_5
    have er : co_rd b x e w r s = (-2, by_addP 384 b (e - x) x (0, 0, r.2.2), s) := by unfold co_rd; exact if_neg hge
    refine mj_aload_n d_Co_makeReady_25 rfl ?_
    refine mj_get ok_Co (k := 0) (by decide) fl_Co_14 d_Co_makeReady_26 c0 rfl ?_
    refine mj_cV (S := []) (S1 := []) (c_By_clear C.1.1.2.1) d_Co_makeReady_29 cw_By_clear ml_Co_57 im_By_clear se_By_clear rfl b1 (by decide) rfl (Nat.le_of_ble_eq_true rfl) rfl rfl ?_
    have C1 := C.1.1.up (r' := (0, 0, r.2.2)) (Nat.zero_le _)
    have B1 := C.1.1.2.1.oth (b' := (0, 0, r.2.2)) B (Ne.symm hf4) (Ne.symm hf5)
    obtain ⟨d0, ⟨d1, d2, d3, d4⟩, -⟩ := id C1
    refine mj_aload_n d_Co_makeReady_32 rfl ?_
    refine mj_get ok_Co (k := 0) (by decide) fl_Co_14 d_Co_makeReady_33 d0 rfl ?_
    refine mj_aload_n d_Co_makeReady_36 rfl ?_
    refine mj_iload_n d_Co_makeReady_37 rfl ?_
    refine mj_iload_n d_Co_makeReady_38 rfl ?_
    refine mj_cV (S := []) (S1 := []) (c_By_addPart C1.2.1 B1 (Ne.symm hf4) (Ne.symm hf5) x e (by omega) (by omega)) d_Co_makeReady_39 cw_By_addPart ml_Co_60 im_By_addPart se_By_addPart rfl d1 (by decide) rfl (Nat.le_of_ble_eq_true rfl) rfl rfl ?_
    rw [C.1.1.2.1.upup, C.rr]
    refine mj_bipush (v := (-2)) d_Co_makeReady_42 (by decide) ?_
    exact mj_iret rfl d_Co_makeReady_44 ⟨by rw [er], by rw [er]⟩
  · have hlt : e - x < w := by
      rcases Nat.lt_or_ge (e - x) (w) with q | q
      · exact q
      · exact absurd (nI_le q (by omega)) c_5
    have er : co_rd b x e w r s = ((pa_upk 384 b x e w s r).1, (pa_upk 384 b x e w s r).2.2, (pa_upk 384 b x e w s r).2.1) := by unfold co_rd; exact if_pos hlt
    refine mj_aload_n d_Co_makeReady_8 rfl ?_
    refine mj_get ok_Co (k := 2) (by decide) fl_Co_26 d_Co_makeReady_9 c0 rfl ?_
    refine mj_aload_n d_Co_makeReady_12 rfl ?_
    refine mj_iload_n d_Co_makeReady_13 rfl ?_
    refine mj_iload_n d_Co_makeReady_14 rfl ?_
    refine mj_iload d_Co_makeReady_15 rfl ?_
    refine mj_aload_n d_Co_makeReady_17 rfl ?_
    refine mj_get ok_Co (k := 0) (by decide) fl_Co_14 d_Co_makeReady_18 c0 rfl ?_
    refine mj_cV (S := []) (S1 := [.int (pa_upk 384 b x e w s r).1]) (c_Pa_unpack C.2.1 B C.1.1.2.1 (Ne.symm hf9) (Ne.symm hf10) (by decide) (by decide) hok2 (st := x) (e := e) (w := w) he (by omega) hw (by omega) (by omega)) d_Co_makeReady_21 cw_Pa_unpack ml_Co_53 im_Pa_unpack se_Pa_unpack rfl k0 (by decide) rfl (Nat.le_of_ble_eq_true rfl) rfl rfl ?_
    rw [C.rs]
    exact mj_iret rfl d_Co_makeReady_24 ⟨by rw [er], by rw [er]⟩
