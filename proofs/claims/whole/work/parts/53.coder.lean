def co_tbC (p : pi_P) (y : Nat) : Nat → Nat → (Nat → Int32) × by_B → (Nat → Int32) × by_B
  | 0, _, x => x
  | j + 1, c, x => co_tbC p y j (c + 1) (if p.2.2.2.2.1 c = 1 then (tb_f p c y 16 (tb_f p c y 0 x.1), tb_r p c y 16 (tb_f p c y 0 x.1) (tb_r p c y 0 x.1 x.2)) else (tb_f p c y 0 x.1, tb_r p c y 0 x.1 x.2))
theorem tb_r_le {p : pi_P} {c y sh : Nat} {f : Nat → Int32} {r : by_B} (h : r.1 ≤ 384) : (tb_r p c y sh f r).1 ≤ 384 := tb_gy_le _ _ _ _ _ h
theorem co_tbC_le (p : pi_P) (y : Nat) : ∀ (j c : Nat) (x : (Nat → Int32) × by_B), x.2.1 ≤ 384 → (co_tbC p y j c x).2.1 ≤ 384
  | 0, _, _, h => h
  | j + 1, c, x, h => by
    rw [co_tbC]
    refine co_tbC_le p y j (c + 1) _ ?_
    split
    · exact tb_r_le (tb_r_le h)
    · exact tb_r_le h
def co_tbs (p : pi_P) (y : Nat) (f : Nat → Int32) (r : by_B) : (Nat → Int32) × by_B := co_tbC p y p.2.2.1 0 (f, (0, 0, r.2.2))
theorem co_tbs_le (p : pi_P) (y : Nat) (f : Nat → Int32) (r : by_B) : (co_tbs p y f r).2.1 ≤ 384 := co_tbC_le _ _ _ _ _ (Nat.zero_le _)
theorem tb_r0 {h : mj_H} {f : Nat → Int32} {r r' : by_B} : tb_up (by_up h 4 5 384 r) f r' = tb_up h f r' := by
  unfold tb_up by_up wv_up
  rw [List.set_comm _ _ (show (5 : Nat) ≠ 12 by decide), List.set_comm _ _ (show (4 : Nat) ≠ 12 by decide), List.set_comm _ _ (show (5 : Nat) ≠ 4 by decide), List.set_set, List.set_set]
def Cf (h : mj_H) (f : Nat → Int32) (r s k : by_B) (a l t st m : Nat) (p : pi_P) : Prop := Ct h r f a l t st m p ∧ Pk h 8 9 10 s ∧ By h 6 7 400 k
def cf_up (h : mj_H) (f : Nat → Int32) (r s k : by_B) : mj_H := by_up (by_up (tb_up h f r) 9 10 384 s) 6 7 400 k
theorem cf_r {h : mj_H} {f : Nat → Int32} {r r' s k : by_B} : by_up (cf_up h f r s k) 4 5 384 r' = cf_up h f r' s k := by
  unfold cf_up tb_up by_up wv_up
  rw [List.set_comm _ _ (show (7 : Nat) ≠ 4 by decide), List.set_comm _ _ (show (6 : Nat) ≠ 4 by decide), List.set_comm _ _ (show (10 : Nat) ≠ 4 by decide), List.set_comm _ _ (show (9 : Nat) ≠ 4 by decide), List.set_comm _ _ (show (5 : Nat) ≠ 4 by decide), List.set_set, List.set_comm _ _ (show (7 : Nat) ≠ 5 by decide), List.set_comm _ _ (show (6 : Nat) ≠ 5 by decide), List.set_comm _ _ (show (10 : Nat) ≠ 5 by decide), List.set_comm _ _ (show (9 : Nat) ≠ 5 by decide), List.set_set]
theorem cf_tb {h : mj_H} {f f' : Nat → Int32} {r r' s k : by_B} : tb_up (cf_up h f r s k) f' r' = cf_up h f' r' s k := by
  unfold cf_up tb_up by_up wv_up
  rw [List.set_comm _ _ (show (7 : Nat) ≠ 12 by decide), List.set_comm _ _ (show (6 : Nat) ≠ 12 by decide), List.set_comm _ _ (show (10 : Nat) ≠ 12 by decide), List.set_comm _ _ (show (9 : Nat) ≠ 12 by decide), List.set_comm _ _ (show (5 : Nat) ≠ 12 by decide), List.set_comm _ _ (show (4 : Nat) ≠ 12 by decide), List.set_set, List.set_comm _ _ (show (7 : Nat) ≠ 4 by decide), List.set_comm _ _ (show (6 : Nat) ≠ 4 by decide), List.set_comm _ _ (show (10 : Nat) ≠ 4 by decide), List.set_comm _ _ (show (9 : Nat) ≠ 4 by decide), List.set_comm _ _ (show (5 : Nat) ≠ 4 by decide), List.set_set, List.set_comm _ _ (show (7 : Nat) ≠ 5 by decide), List.set_comm _ _ (show (6 : Nat) ≠ 5 by decide), List.set_comm _ _ (show (10 : Nat) ≠ 5 by decide), List.set_comm _ _ (show (9 : Nat) ≠ 5 by decide), List.set_set]
theorem cf_sk {h : mj_H} {f : Nat → Int32} {r s s' k k' : by_B} : by_up (by_up (cf_up h f r s k) 9 10 384 s') 6 7 400 k' = cf_up h f r s' k' := by
  unfold cf_up tb_up by_up wv_up
  rw [List.set_comm _ _ (show (7 : Nat) ≠ 9 by decide), List.set_comm _ _ (show (6 : Nat) ≠ 9 by decide), List.set_comm _ _ (show (10 : Nat) ≠ 9 by decide), List.set_set, List.set_comm _ _ (show (7 : Nat) ≠ 10 by decide), List.set_comm _ _ (show (6 : Nat) ≠ 10 by decide), List.set_set, List.set_comm _ _ (show (7 : Nat) ≠ 6 by decide), List.set_set, List.set_set]
theorem cf_uu {h : mj_H} {f f' : Nat → Int32} {r r' s s' k k' : by_B} : cf_up (cf_up h f r s k) f' r' s' k' = cf_up h f' r' s' k' := by
  show by_up (by_up (tb_up (cf_up h f r s k) f' r') 9 10 384 s') 6 7 400 k' = _
  rw [cf_tb, cf_sk]
theorem cf_fr {h : mj_H} {f : Nat → Int32} {r s k : by_B} {i : Nat} (hi : 13 ≤ i ∨ i < 4 ∨ i = 8 ∨ i = 11) : (cf_up h f r s k)[i]? = h[i]? := by
  unfold cf_up tb_up by_up wv_up
  rw [List.getElem?_set_ne (by omega), List.getElem?_set_ne (by omega), List.getElem?_set_ne (by omega), List.getElem?_set_ne (by omega), List.getElem?_set_ne (by omega), List.getElem?_set_ne (by omega), List.getElem?_set_ne (by omega)]
theorem Pi.via {h h' : mj_H} {a l t s m : Nat} {p : pi_P} (P : Pi h a l t s m p) (hz : 17 ≤ a ∧ 17 ≤ l ∧ 17 ≤ t ∧ 17 ≤ s ∧ 17 ≤ m) (hf : ∀ i, 17 ≤ i → h'[i]? = h[i]?) : Pi h' a l t s m p := by
  obtain ⟨h1, h2, h3, h4, h5, h6⟩ := P
  exact ⟨by rw [hf _ hz.1]; exact h1, by rw [hf _ hz.2.1]; exact h2, by rw [hf _ hz.2.2.1]; exact h3, by rw [hf _ hz.2.2.2.1]; exact h4, by rw [hf _ hz.2.2.2.2]; exact h5, h6⟩
theorem Cf.up {h : mj_H} {f f' : Nat → Int32} {r r' s s' k k' : by_B} {a l t st m : Nat} {p : pi_P} (C : Cf h f r s k a l t st m p) (hr : r'.1 ≤ 384) (hs : s'.1 ≤ 384) (hk : k'.1 ≤ 400) : Cf (cf_up h f' r' s' k') f' r' s' k' a l t st m p := by
  obtain ⟨⟨⟨c0, B4, P, z, hok⟩, ⟨wa, wb⟩⟩, ⟨k0, B9⟩, B6⟩ := C
  have B4' := (show By (wv_up h 12 f') 4 5 384 r from ⟨by rw [wv_fr (by decide)]; exact B4.1, by rw [wv_fr (by decide)]; exact B4.2.1, B4.2.2⟩).up hr
  have B9' := (show By (tb_up h f' r') 9 10 384 s from ⟨by unfold tb_up by_up wv_up; rw [List.getElem?_set_ne (by decide), List.getElem?_set_ne (by decide), List.getElem?_set_ne (by decide)]; exact B9.1, by unfold tb_up by_up wv_up; rw [List.getElem?_set_ne (by decide), List.getElem?_set_ne (by decide), List.getElem?_set_ne (by decide)]; exact B9.2.1, B9.2.2⟩).up hs
  have B6' := (show By (by_up (tb_up h f' r') 9 10 384 s') 6 7 400 k from ⟨by unfold tb_up by_up wv_up; rw [List.getElem?_set_ne (by decide), List.getElem?_set_ne (by decide), List.getElem?_set_ne (by decide), List.getElem?_set_ne (by decide), List.getElem?_set_ne (by decide)]; exact B6.1, by unfold tb_up by_up wv_up; rw [List.getElem?_set_ne (by decide), List.getElem?_set_ne (by decide), List.getElem?_set_ne (by decide), List.getElem?_set_ne (by decide), List.getElem?_set_ne (by decide)]; exact B6.2.1, B6.2.2⟩)
  have B4'' : By (by_up (tb_up h f' r') 9 10 384 s') 4 5 384 r' := ⟨by unfold by_up; rw [List.getElem?_set_ne (by decide), List.getElem?_set_ne (by decide)]; exact B4'.1, by unfold by_up; rw [List.getElem?_set_ne (by decide), List.getElem?_set_ne (by decide)]; exact B4'.2.1, B4'.2.2⟩
  refine ⟨⟨⟨by rw [cf_fr (by decide)]; exact c0, B6'.oth B4'' (by decide) (by decide), P.via z (fun i hi => cf_fr (by omega)), z, hok⟩, ⟨by rw [cf_fr (by decide)]; exact wa, ?_⟩⟩, ⟨by rw [cf_fr (by decide)]; exact k0, B6'.oth B9' (by decide) (by decide)⟩, B6'.up hk⟩
  unfold cf_up tb_up by_up wv_up
  rw [List.getElem?_set_ne (by decide), List.getElem?_set_ne (by decide), List.getElem?_set_ne (by decide), List.getElem?_set_ne (by decide), List.getElem?_set_ne (by decide), List.getElem?_set_ne (by decide)]
  exact mj_sS wb
theorem Cf.idn {h : mj_H} {f : Nat → Int32} {r s k : by_B} {a l t st m : Nat} {p : pi_P} (C : Cf h f r s k a l t st m p) : cf_up h f r s k = h := by
  unfold cf_up
  rw [C.1.idn, C.2.1.2.idn, C.2.2.idn]
set_option maxRecDepth 100000 in
set_option maxHeartbeats 4000000 in
theorem lp_Co_putTables {Q : mj_E → mj_H → Prop} {a l t s m : Nat} {p : pi_P} {y kc ks : Nat} (hy : y ≤ pi_end p y 3) : ∀ (j c : Nat) (f : Nat → Int32) (r : by_B) (h : mj_H), Ct h r f a l t s m p → c + j = p.2.2.1 → mj_W M_Co_putTables Q (3, 81, none) kc ks 50 [some (.ref 3), some (.ref a), some (.int (nI y)), none] [] (tb_up h (co_tbC p y j c (f, r)).1 (co_tbC p y j c (f, r)).2) → mj_W M_Co_putTables Q (3, 81, none) kc ks 9 [some (.ref 3), some (.ref a), some (.int (nI y)), some (.int (nI c))] [] h := by
  intro j
  induction j with
  | zero =>
    intro c f r h C hc kk
    obtain ⟨⟨c0, ⟨b1, b2, b3, b4⟩, ⟨h1, h2, h3, h4, h5, ⟨n1, n2, n3, n4, n5, n6⟩, w1, w2, w3⟩, ⟨z1, z2, z3, z4, z5⟩, hok⟩, ⟨wa, wb⟩⟩ := id C
    refine mj_iload_n d_Co_putTables_9 rfl ?_
    refine mj_aload_n d_Co_putTables_10 rfl ?_
    refine mj_get ok_Pi (k := 2) (by decide) fl_Co_76 d_Co_putTables_11 h1 rfl ?_
    refine mj_icmp_ge (tgt := 50) d_Co_putTables_14 (by decide) (fun c_14 => ?_) (fun c_14 => ?_)
    · refine mj_fg 3 (L' := [some (.ref 3), some (.ref a), some (.int (nI y)), none]) rfl ?_
      rw [show co_tbC p y 0 c (f, r) = (f, r) from rfl, C.idn] at kk
      exact kk
    · exact absurd (nI_le (by omega) (by omega)) c_14
  | succ j ih =>
    intro c f r h C hc kk
    obtain ⟨⟨c0, ⟨b1, b2, b3, b4⟩, ⟨h1, h2, h3, h4, h5, ⟨n1, n2, n3, n4, n5, n6⟩, w1, w2, w3⟩, ⟨z1, z2, z3, z4, z5⟩, hok⟩, ⟨wa, wb⟩⟩ := id C
    refine mj_iload_n d_Co_putTables_9 rfl ?_
    refine mj_aload_n d_Co_putTables_10 rfl ?_
    refine mj_get ok_Pi (k := 2) (by decide) fl_Co_76 d_Co_putTables_11 h1 rfl ?_
    refine mj_icmp_ge (tgt := 50) d_Co_putTables_14 (by decide) (fun c_14 => ?_) (fun c_14 => ?_)
    · exact absurd c_14 (nI_ge (by omega) (by omega))
    · refine mj_aload_n d_Co_putTables_17 rfl ?_
      refine mj_aload_n d_Co_putTables_18 rfl ?_
      refine mj_iload_n d_Co_putTables_19 rfl ?_
      refine mj_iload_n d_Co_putTables_20 rfl ?_
      refine mj_iconst (v := 0) d_Co_putTables_21 (by decide) ?_
      refine mj_cV (S := []) (S1 := []) (c_Co_putTable C (c := c) (y := y) (sh := 0) (by omega) hy) d_Co_putTables_22 cw_Co_putTable ml_Co_125 im_Co_putTable se_Co_putTable rfl c0 (by decide) rfl (Nat.le_of_ble_eq_true rfl) rfl rfl ?_
      have C1 := C.tb (f' := tb_f p c y 0 f) (r' := tb_r p c y 0 f r) (tb_r_le b3)
      obtain ⟨⟨d0, ⟨e1, e2, e3, e4⟩, ⟨i1, i2, i3, i4, i5, i6⟩, -⟩, -⟩ := id C1
      refine mj_aload_n d_Co_putTables_25 rfl ?_
      refine mj_get ok_Pi (k := 4) (by decide) fl_Co_87 d_Co_putTables_26 i1 rfl ?_
      refine mj_iload_n d_Co_putTables_29 rfl ?_
      refine mj_iald d_Co_putTables_30 i3 (vp_in_nI (by omega) (by decide)) ?_
      refine mj_iconst (v := 1) d_Co_putTables_31 (by decide) ?_
      refine mj_icmp_ne (tgt := 44) d_Co_putTables_32 (by decide) (fun c_32 => ?_) (fun c_32 => ?_)
      · obtain ⟨v1, e_v1⟩ : ∃ q_ : Int32, q_ = (nI c) + 1 := ⟨_, rfl⟩
        refine mj_iinc (x := (nI c)) (v := v1) (L' := [some (.ref 3), some (.ref a), some (.int (nI y)), some (.int v1)]) d_Co_putTables_44 rfl (by rw [e_v1]; rfl) (by decide) rfl rfl ?_
        refine mj_goto (tgt := 9) d_Co_putTables_47 (by decide) ?_
        rw [e_v1, nI_1]
        rw [nI_clamp (by omega)] at c_32
        rw [show co_tbC p y (j + 1) c (f, r) = co_tbC p y j (c + 1) (tb_f p c y 0 f, tb_r p c y 0 f r) by rw [co_tbC, if_neg c_32]] at kk
        refine ih (c + 1) _ _ _ (C.tb (tb_r_le b3)) (by omega) ?_
        rw [tb_uu]
        exact kk
      · refine mj_aload_n d_Co_putTables_35 rfl ?_
        refine mj_aload_n d_Co_putTables_36 rfl ?_
        refine mj_iload_n d_Co_putTables_37 rfl ?_
        refine mj_iload_n d_Co_putTables_38 rfl ?_
        refine mj_bipush (v := 16) d_Co_putTables_39 (by decide) ?_
        refine mj_cV (S := []) (S1 := []) (c_Co_putTable C1 (c := c) (y := y) (sh := 16) (by omega) hy) d_Co_putTables_41 cw_Co_putTable ml_Co_125 im_Co_putTable se_Co_putTable rfl d0 (by decide) rfl (Nat.le_of_ble_eq_true rfl) rfl rfl ?_
        rw [tb_uu]
        obtain ⟨v2, e_v2⟩ : ∃ q_ : Int32, q_ = (nI c) + 1 := ⟨_, rfl⟩
        refine mj_iinc (x := (nI c)) (v := v2) (L' := [some (.ref 3), some (.ref a), some (.int (nI y)), some (.int v2)]) d_Co_putTables_44 rfl (by rw [e_v2]; rfl) (by decide) rfl rfl ?_
        refine mj_goto (tgt := 9) d_Co_putTables_47 (by decide) ?_
        rw [e_v2, nI_1]
        rw [nI_clamp (by omega)] at c_32
        rw [show co_tbC p y (j + 1) c (f, r) = co_tbC p y j (c + 1) (tb_f p c y 16 (tb_f p c y 0 f), tb_r p c y 16 (tb_f p c y 0 f) (tb_r p c y 0 f r)) by rw [co_tbC, if_pos c_32]] at kk
        refine ih (c + 1) _ _ _ (C.tb (tb_r_le (tb_r_le b3))) (by omega) ?_
        rw [tb_uu]
        exact kk
set_option maxRecDepth 100000 in
set_option maxHeartbeats 4000000 in
theorem c_Co_putTables {h : mj_H} {r : by_B} {f : Nat → Int32} {a l t s m : Nat} {p : pi_P} (C : Ct h r f a l t s m p) {y : Nat} (hy : y ≤ pi_end p y 3) : mj_Met M_Co_putTables (3, 81, none) 0 0 [.ref 3, .ref a, .int (nI y)] h (mj_q none (tb_up h (co_tbs p y f r).1 (co_tbs p y f r).2)) := by
  obtain ⟨⟨c0, ⟨b1, b2, b3, b4⟩, ⟨h1, h2, h3, h4, h5, ⟨n1, n2, n3, n4, n5, n6⟩, w1, w2, w3⟩, ⟨z1, z2, z3, z4, z5⟩, hok⟩, ⟨wa, wb⟩⟩ := id C
  refine mj_enter (r := 1) rfl rfl (by decide) rfl ?_
  show mj_W M_Co_putTables _ _ _ _ 0 [some (.ref 3), some (.ref a), some (.int (nI y)), none] [] h
  refine mj_aload_n d_Co_putTables_0 rfl ?_
  refine mj_get ok_Co (k := 0) (by decide) fl_Co_14 d_Co_putTables_1 c0 rfl ?_
  refine mj_cV (S := []) (S1 := []) (c_By_clear C.1.2.1) d_Co_putTables_4 cw_By_clear ml_Co_57 im_By_clear se_By_clear rfl b1 (by decide) rfl (Nat.le_of_ble_eq_true rfl) rfl rfl ?_
  refine mj_iconst (v := 0) d_Co_putTables_7 (by decide) ?_
  refine mj_istore_n (L' := [some (.ref 3), some (.ref a), some (.int (nI y)), some (.int 0)]) d_Co_putTables_8 (by decide) rfl rfl ?_
  have C1 := C.up (r' := (0, 0, r.2.2)) (Nat.zero_le _)
  refine lp_Co_putTables hy p.2.2.1 0 f _ _ C1 (by omega) ?_
  rw [tb_r0]
  exact mj_vret rfl d_Co_putTables_50 ⟨rfl, rfl⟩
