def fw_up (h : mj_H) (b : by_B) (f : Nat → Int32) (r s k : by_B) : mj_H := cf_up (by_up h 1 2 1500 b) f r s k
def Fw (h : mj_H) (b : by_B) (f : Nat → Int32) (r s k : by_B) (a l t st m : Nat) (p : pi_P) : Prop := By h 1 2 1500 b ∧ Cf h f r s k a l t st m p
theorem fw_b {h : mj_H} {f : Nat → Int32} {b b' r s k : by_B} : by_up (fw_up h b f r s k) 1 2 1500 b' = fw_up h b' f r s k := by
  unfold fw_up cf_up tb_up by_up wv_up
  rw [List.set_comm _ _ (show (7 : Nat) ≠ 1 by decide), List.set_comm _ _ (show (6 : Nat) ≠ 1 by decide), List.set_comm _ _ (show (10 : Nat) ≠ 1 by decide), List.set_comm _ _ (show (9 : Nat) ≠ 1 by decide), List.set_comm _ _ (show (5 : Nat) ≠ 1 by decide), List.set_comm _ _ (show (4 : Nat) ≠ 1 by decide), List.set_comm _ _ (show (12 : Nat) ≠ 1 by decide), List.set_comm _ _ (show (2 : Nat) ≠ 1 by decide), List.set_set, List.set_comm _ _ (show (7 : Nat) ≠ 2 by decide), List.set_comm _ _ (show (6 : Nat) ≠ 2 by decide), List.set_comm _ _ (show (10 : Nat) ≠ 2 by decide), List.set_comm _ _ (show (9 : Nat) ≠ 2 by decide), List.set_comm _ _ (show (5 : Nat) ≠ 2 by decide), List.set_comm _ _ (show (4 : Nat) ≠ 2 by decide), List.set_comm _ _ (show (12 : Nat) ≠ 2 by decide), List.set_set]
theorem fw_c {h : mj_H} {f f' : Nat → Int32} {b r r' s s' k k' : by_B} : cf_up (fw_up h b f r s k) f' r' s' k' = fw_up h b f' r' s' k' := by
  unfold fw_up
  rw [cf_uu]
theorem fw_uu {h : mj_H} {f f' : Nat → Int32} {b b' r r' s s' k k' : by_B} : fw_up (fw_up h b f r s k) b' f' r' s' k' = fw_up h b' f' r' s' k' := by
  show cf_up (by_up (fw_up h b f r s k) 1 2 1500 b') f' r' s' k' = _
  rw [fw_b, fw_c]
theorem Fw.idn {h : mj_H} {b : by_B} {f : Nat → Int32} {r s k : by_B} {a l t st m : Nat} {p : pi_P} (F : Fw h b f r s k a l t st m p) : fw_up h b f r s k = h := by
  unfold fw_up
  rw [F.1.idn, F.2.idn]
theorem Fw.b {h : mj_H} {b b' : by_B} {f : Nat → Int32} {r s k : by_B} {a l t st m : Nat} {p : pi_P} (F : Fw h b f r s k a l t st m p) : by_up h 1 2 1500 b' = fw_up h b' f r s k := by
  have q := fw_b (h := h) (b := b) (b' := b') (f := f) (r := r) (s := s) (k := k)
  rw [F.idn] at q
  exact q
theorem Fw.c {h : mj_H} {b : by_B} {f f' : Nat → Int32} {r s k r' s' k' : by_B} {a l t st m : Nat} {p : pi_P} (F : Fw h b f r s k a l t st m p) : cf_up h f' r' s' k' = fw_up h b f' r' s' k' := by
  have q := fw_c (h := h) (b := b) (f := f) (f' := f') (r := r) (r' := r') (s := s) (s' := s') (k := k) (k' := k')
  rw [F.idn] at q
  exact q
theorem fw_fr {h : mj_H} {b : by_B} {f : Nat → Int32} {r s k : by_B} {i : Nat} (hi : 13 ≤ i ∨ i = 0 ∨ i = 3 ∨ i = 8 ∨ i = 11) : (fw_up h b f r s k)[i]? = h[i]? := by
  unfold fw_up
  rw [cf_fr (by omega)]
  unfold by_up
  rw [List.getElem?_set_ne (by omega), List.getElem?_set_ne (by omega)]
theorem Cf.fb {h : mj_H} {b b' : by_B} {f : Nat → Int32} {r s k : by_B} {a l t st m : Nat} {p : pi_P} (C : Cf h f r s k a l t st m p) (B : By h 1 2 1500 b) : Cf (by_up h 1 2 1500 b') f r s k a l t st m p := by
  obtain ⟨⟨⟨c0, ⟨b1, b2, b3, b4⟩, P, z, hok⟩, ⟨wa, wb⟩⟩, ⟨k0, ⟨k1, k2, k3, k4⟩⟩, ⟨q1, q2, q3, q4⟩⟩ := C
  have e : ∀ i, i ≠ 1 → i ≠ 2 → (by_up h 1 2 1500 b')[i]? = h[i]? := fun i h1 h2 => by unfold by_up; rw [List.getElem?_set_ne (Ne.symm h2), List.getElem?_set_ne (Ne.symm h1)]
  refine ⟨⟨⟨?_, ⟨?_, ?_, b3, b4⟩, P.via z (fun i hi => e i (by omega) (by omega)), z, hok⟩, ⟨?_, ?_⟩⟩, ⟨?_, ⟨?_, ?_, k3, k4⟩⟩, ⟨?_, ?_, q3, q4⟩⟩ <;> (rw [e _ (by decide) (by decide)]; assumption)
theorem Fw.up {h : mj_H} {b b' : by_B} {f f' : Nat → Int32} {r s k r' s' k' : by_B} {a l t st m : Nat} {p : pi_P} (F : Fw h b f r s k a l t st m p) (hb : b'.1 ≤ 1500) (hr : r'.1 ≤ 384) (hs : s'.1 ≤ 384) (hk : k'.1 ≤ 400) : Fw (fw_up h b' f' r' s' k') b' f' r' s' k' a l t st m p := by
  obtain ⟨B, C⟩ := F
  have C1 := C.fb B (b' := b')
  have B1 := B.up hb
  refine ⟨⟨?_, ?_, B1.2.2⟩, C1.up hr hs hk⟩
  · unfold fw_up; rw [cf_fr (by decide)]; exact B1.1
  · unfold fw_up; rw [cf_fr (by decide)]; exact B1.2.1
abbrev wr_X : Type := by_B × (Nat → Int32) × by_B × by_B × by_B
def wr_md (x : Nat × by_B × by_B × by_B) : by_B := if x.1 = 6 then x.2.2.2 else x.2.1
def wr_b2 (T i : Nat) (b : by_B) : by_B := by_chg (by_chg b (nI T + 2 * nI i) (nI b.1)) (nI T + 2 * nI i + 1) (mj_ush (nI (by_chg b (nI T + 2 * nI i) (nI b.1)).1) 8)
def wr_m1 (p : pi_P) (k i : Nat) (x : wr_X) : (Nat → Int32) × by_B := co_mk1 p k (i * rf_ln k) x.2.1 x.2.2.1
def wr_m2 (p : pi_P) (k i : Nat) (x : wr_X) : Nat × by_B × by_B × by_B := co_mk2 p k (i * rf_ln k) (wr_m1 p k i x).2 x.2.2.2.1 x.2.2.2.2
def wr_b5 (y : Nat) (md b : by_B) : by_B := by_addP 1500 md md.1 0 (by_addN 1500 (nI md.1) 2 0 (by_add 1500 b (nI y)))
def wr_st (p : pi_P) (k T i : Nat) (x : wr_X) : wr_X := (wr_b5 (i * rf_ln k) (wr_md (wr_m2 p k i x)) (wr_b2 T i x.1), (wr_m1 p k i x).1, (wr_m2 p k i x).2.1, (wr_m2 p k i x).2.2.1, (wr_m2 p k i x).2.2.2)
def wr_lp (p : pi_P) (k T : Nat) : Nat → Nat → wr_X → wr_X
  | 0, _, x => x
  | j + 1, i, x => wr_lp p k T j (i + 1) (wr_st p k T i x)
def wr_in (x : wr_X) : Prop := x.1.1 ≤ 1500 ∧ x.2.2.1.1 ≤ 384 ∧ x.2.2.2.1.1 ≤ 384 ∧ x.2.2.2.2.1 ≤ 400
theorem wr_b5_le (y : Nat) (md b : by_B) (h : b.1 ≤ 1500) : (wr_b5 y md b).1 ≤ 1500 := by_addP_le _ _ _ _ (by_addN_le _ _ _ _ (by_add_le _ h))
theorem wr_b2_le (T i : Nat) (b : by_B) : (wr_b2 T i b).1 = b.1 := by unfold wr_b2; rw [by_chg_le, by_chg_le]
theorem wr_st_in (p : pi_P) (k T i : Nat) (x : wr_X) (h : wr_in x) : wr_in (wr_st p k T i x) := ⟨wr_b5_le _ _ _ (by rw [wr_b2_le]; exact h.1), co_mk2_le _ _ _ _ _ _ (co_mk1_le _ _ _ _ _) h.2.2.1 h.2.2.2⟩
theorem wr_lp_in (p : pi_P) (k T : Nat) : ∀ (j i : Nat) (x : wr_X), wr_in x → wr_in (wr_lp p k T j i x)
  | 0, _, _, h => h
  | j + 1, i, x, h => wr_lp_in p k T j (i + 1) _ (wr_st_in _ _ _ _ _ h)
theorem wr_y {p : pi_P} {k i : Nat} (h : i < pi_chs p k) (hp : p.2.1 ≤ 8) : i * rf_ln k ≤ pi_end p (i * rf_ln k) k ∧ i * rf_ln k < 8 := by
  unfold pi_chs at h
  unfold pi_end rf_ln
  split at h
  · rename_i q; rw [if_pos q]; split <;> omega
  · rename_i q; rw [if_neg q]; split <;> omega
theorem co_mk2_ad (p : pi_P) (k y : Nat) (r s q : by_B) : (co_mk2 p k y r s q).1 = 4 ∨ (co_mk2 p k y r s q).1 = 6 := by
  unfold co_mk2
  split
  · exact Or.inl rfl
  · split
    · exact Or.inr rfl
    · exact Or.inl rfl
def wr_fu (h : mj_H) (x : wr_X) : mj_H := fw_up h x.1 x.2.1 x.2.2.1 x.2.2.2.1 x.2.2.2.2
def wr_wr (p : pi_P) (k : Nat) (x : wr_X) : wr_X := wr_lp p k (wr_hd p k (0, 0, x.1.2.2)).1 (pi_chs p k) 0 (by_addN 1500 0 (2 * pi_chs p k) 0 (wr_hd p k (0, 0, x.1.2.2)), x.2)
set_option maxRecDepth 100000 in
set_option maxHeartbeats 4000000 in
theorem lp_Wr_write {Q : mj_E → mj_H → Prop} {a l t st m : Nat} {p : pi_P} {k T kc ks : Nat} (hk : k < 4) : ∀ (j i : Nat) (b : by_B) (f : Nat → Int32) (r s q : by_B) (h : mj_H), Fw h b f r s q a l t st m p → i + j = pi_chs p k → mj_W M_Wr_write Q (5, 127, none) kc ks 132 [some (.ref 13), some (.ref a), some (.int (nI k)), some (.ref 1), some (.ref 3), some (.int (nI (pi_chs p k))), some (.int (nI T)), none, none, none] [] (wr_fu h (wr_lp p k T j i (b, f, r, s, q))) → mj_W M_Wr_write Q (5, 127, none) kc ks 36 [some (.ref 13), some (.ref a), some (.int (nI k)), some (.ref 1), some (.ref 3), some (.int (nI (pi_chs p k))), some (.int (nI T)), some (.int (nI i)), none, none] [] h := by
  intro j
  induction j with
  | zero =>
    intro i b f r s q h F hi kk
    obtain ⟨⟨f1, f2, f3, f4⟩, ⟨⟨⟨c0, ⟨b1, b2, b3, b4⟩, ⟨h1, h2, h3, h4, h5, ⟨n1, n2, n3, n4, n5, n6⟩, w1, w2, w3⟩, ⟨z1, z2, z3, z4, z5⟩, hok⟩, ⟨wa, wb⟩⟩, ⟨k0, k1, k2, k3, k4⟩, ⟨q1, q2, q3, q4⟩⟩⟩ := id F
    have hch : pi_chs p k ≤ 8 := by unfold pi_chs; split <;> omega
    refine mj_iload d_Wr_write_36 rfl ?_
    refine mj_iload d_Wr_write_38 rfl ?_
    refine mj_icmp_ge (tgt := 132) d_Wr_write_40 (by decide) (fun c_40 => ?_) (fun c_40 => ?_)
    · refine mj_fg 7 (L' := [some (.ref 13), some (.ref a), some (.int (nI k)), some (.ref 1), some (.ref 3), some (.int (nI (pi_chs p k))), some (.int (nI T)), none, none, none]) rfl ?_
      rw [show wr_lp p k T 0 i (b, f, r, s, q) = (b, f, r, s, q) from rfl] at kk
      exact mj_hp F.idn kk
    · exact absurd (nI_le (by omega) (by omega)) c_40
  | succ j ih =>
    intro i b f r s q h F hi kk
    obtain ⟨⟨f1, f2, f3, f4⟩, ⟨⟨⟨c0, ⟨b1, b2, b3, b4⟩, ⟨h1, h2, h3, h4, h5, ⟨n1, n2, n3, n4, n5, n6⟩, w1, w2, w3⟩, ⟨z1, z2, z3, z4, z5⟩, hok⟩, ⟨wa, wb⟩⟩, ⟨k0, k1, k2, k3, k4⟩, ⟨q1, q2, q3, q4⟩⟩⟩ := id F
    have hch : pi_chs p k ≤ 8 := by unfold pi_chs; split <;> omega
    refine mj_iload d_Wr_write_36 rfl ?_
    refine mj_iload d_Wr_write_38 rfl ?_
    refine mj_icmp_ge (tgt := 132) d_Wr_write_40 (by decide) (fun c_40 => ?_) (fun c_40 => ?_)
    · exact absurd c_40 (nI_ge (by omega) (by omega))
    · refine mj_aload_n d_Wr_write_43 rfl ?_
      refine mj_iload d_Wr_write_44 rfl ?_
      refine mj_iconst (v := 2) d_Wr_write_46 (by decide) ?_
      refine mj_iload d_Wr_write_47 rfl ?_
      refine mj_imul d_Wr_write_49 ?_
      refine mj_iadd d_Wr_write_50 ?_
      refine mj_aload_n d_Wr_write_51 rfl ?_
      refine mj_get ok_By (k := 1) (by decide) fl_Wr_26 d_Wr_write_52 f1 rfl ?_
      refine mj_cV (S := []) (S1 := []) (c_By_change F.1 (nI T + 2 * nI i) (nI b.1)) d_Wr_write_55 cw_By_change ml_Wr_34 im_By_change se_By_change rfl f1 (by decide) rfl (Nat.le_of_ble_eq_true rfl) rfl rfl ?_
      rw [F.b]
      have F1 := F.up (b' := by_chg b (nI T + 2 * nI i) (nI b.1)) (f' := f) (r' := r) (s' := s) (k' := q) (by rw [by_chg_le]; exact f3) b3 k3 q3
      have x10 := F1.2.1.1.1
      have x11 := F1.1.1
      have x12 := F1.1.2.1
      have x13 := F1.2.1.1.2.2.1.1
      refine mj_aload_n d_Wr_write_58 rfl ?_
      refine mj_iload d_Wr_write_59 rfl ?_
      refine mj_iconst (v := 2) d_Wr_write_61 (by decide) ?_
      refine mj_iload d_Wr_write_62 rfl ?_
      refine mj_imul d_Wr_write_64 ?_
      refine mj_iadd d_Wr_write_65 ?_
      refine mj_iconst (v := 1) d_Wr_write_66 (by decide) ?_
      refine mj_iadd d_Wr_write_67 ?_
      refine mj_aload_n d_Wr_write_68 rfl ?_
      refine mj_get ok_By (k := 1) (by decide) fl_Wr_26 d_Wr_write_69 x11 rfl ?_
      refine mj_bipush (v := 8) d_Wr_write_72 (by decide) ?_
      refine mj_iushr d_Wr_write_74 rfl ?_
      refine mj_cV (S := []) (S1 := []) (c_By_change F1.1 (nI T + 2 * nI i + 1) (mj_ush (nI (by_chg b (nI T + 2 * nI i) (nI b.1)).1) 8)) d_Wr_write_75 cw_By_change ml_Wr_34 im_By_change se_By_change rfl x11 (by decide) rfl (Nat.le_of_ble_eq_true rfl) rfl rfl ?_
      rw [fw_b, show by_chg (by_chg b (nI T + 2 * nI i) (nI b.1)) (nI T + 2 * nI i + 1) (mj_ush (nI (by_chg b (nI T + 2 * nI i) (nI b.1)).1) 8) = wr_b2 T i b from rfl]
      have F2 := F.up (b' := wr_b2 T i b) (f' := f) (r' := r) (s' := s) (k' := q) (by rw [wr_b2_le]; exact f3) b3 k3 q3
      have x20 := F2.2.1.1.1
      have x21 := F2.1.1
      have x22 := F2.1.2.1
      have x23 := F2.2.1.1.2.2.1.1
      refine mj_iload d_Wr_write_78 rfl ?_
      refine mj_iload_n d_Wr_write_80 rfl ?_
      refine mj_cSN (S := [.int (nI i)]) (S1 := [.int (rf_lines (nI k)), .int (nI i)]) (c_RF_linesOfChunk _) d_Wr_write_81 cw_RF_linesOfChunk mn_Wr_37 st_RF_linesOfChunk (by decide) rfl (Nat.le_of_ble_eq_true rfl) rfl rfl ?_
      rw [rf_lines_ln hk]
      refine mj_imul d_Wr_write_84 ?_
      rw [pk_mul]
      have hyy := wr_y (p := p) (k := k) (i := i) (by omega) w2
      refine mj_istore (L' := [some (.ref 13), some (.ref a), some (.int (nI k)), some (.ref 1), some (.ref 3), some (.int (nI (pi_chs p k))), some (.int (nI T)), some (.int (nI i)), some (.int (nI (i * rf_ln k))), none]) d_Wr_write_85 (by decide) rfl rfl ?_
      refine mj_aload d_Wr_write_87 rfl ?_
      refine mj_aload_n d_Wr_write_89 rfl ?_
      refine mj_iload_n d_Wr_write_90 rfl ?_
      refine mj_iload d_Wr_write_91 rfl ?_
      refine mj_cV (S := []) (S1 := [.ref (wr_m2 p k i (b, f, r, s, q)).1]) (c_Co_make F2.2 (y := i * rf_ln k) (k := k) hyy.1 hk) d_Wr_write_93 cw_Co_make ml_Wr_40 im_Co_make se_Co_make rfl x20 (by decide) rfl (Nat.le_of_ble_eq_true rfl) rfl rfl ?_
      refine mj_hp (fw_c (f' := (wr_m1 p k i (b, f, r, s, q)).1) (r' := (wr_m2 p k i (b, f, r, s, q)).2.1) (s' := (wr_m2 p k i (b, f, r, s, q)).2.2.1) (k' := (wr_m2 p k i (b, f, r, s, q)).2.2.2)).symm ?_
      have hm := co_mk2_le p k (i * rf_ln k) (wr_m1 p k i (b, f, r, s, q)).2 s q (co_mk1_le _ _ _ _ _) k3 q3
      have F3 : Fw (fw_up h (wr_b2 T i b) (wr_m1 p k i (b, f, r, s, q)).1 (wr_m2 p k i (b, f, r, s, q)).2.1 (wr_m2 p k i (b, f, r, s, q)).2.2.1 (wr_m2 p k i (b, f, r, s, q)).2.2.2) (wr_b2 T i b) (wr_m1 p k i (b, f, r, s, q)).1 (wr_m2 p k i (b, f, r, s, q)).2.1 (wr_m2 p k i (b, f, r, s, q)).2.2.1 (wr_m2 p k i (b, f, r, s, q)).2.2.2 a l t st m p := F.up (by rw [wr_b2_le]; exact f3) hm.1 hm.2.1 hm.2.2
      rcases co_mk2_ad p k (i * rf_ln k) (wr_m1 p k i (b, f, r, s, q)).2 s q with e6 | e6
      all_goals change (wr_m2 p k i (b, f, r, s, q)).1 = _ at e6
      · rw [e6]
        have em : wr_md (wr_m2 p k i (b, f, r, s, q)) = (wr_m2 p k i (b, f, r, s, q)).2.1 := by unfold wr_md; rw [if_neg (by rw [e6]; decide)]
        have x31 := F3.1.1
        refine mj_astore (L' := [some (.ref 13), some (.ref a), some (.int (nI k)), some (.ref 1), some (.ref 3), some (.int (nI (pi_chs p k))), some (.int (nI T)), some (.int (nI i)), some (.int (nI (i * rf_ln k))), some (.ref 4)]) d_Wr_write_96 (by decide) rfl rfl ?_
        refine mj_aload_n d_Wr_write_98 rfl ?_
        refine mj_iload d_Wr_write_99 rfl ?_
        refine mj_cV (S := []) (S1 := []) (c_By_add F3.1 (nI (i * rf_ln k))) d_Wr_write_101 cw_By_add ml_Wr_46 im_By_add se_By_add rfl x31 (by decide) rfl (Nat.le_of_ble_eq_true rfl) rfl rfl ?_
        rw [fw_b]
        have F4 : Fw (fw_up h (by_add 1500 (wr_b2 T i b) (nI (i * rf_ln k))) (wr_m1 p k i (b, f, r, s, q)).1 (wr_m2 p k i (b, f, r, s, q)).2.1 (wr_m2 p k i (b, f, r, s, q)).2.2.1 (wr_m2 p k i (b, f, r, s, q)).2.2.2) (by_add 1500 (wr_b2 T i b) (nI (i * rf_ln k))) (wr_m1 p k i (b, f, r, s, q)).1 (wr_m2 p k i (b, f, r, s, q)).2.1 (wr_m2 p k i (b, f, r, s, q)).2.2.1 (wr_m2 p k i (b, f, r, s, q)).2.2.2 a l t st m p := F.up (by_add_le _ F3.1.2.2.1) hm.1 hm.2.1 hm.2.2
        have G4 := F4.2.1.1.2.1
        have x41 := F4.1.1
        have x42 := F4.1.2.1
        have x43 := G4.1
        have x44 := G4.2.1
        refine mj_aload_n d_Wr_write_104 rfl ?_
        refine mj_aload d_Wr_write_105 rfl ?_
        refine mj_get ok_By (k := 1) (by decide) fl_Wr_26 d_Wr_write_107 x43 rfl ?_
        refine mj_iconst (v := 2) d_Wr_write_110 (by decide) ?_
        refine mj_cV (S := []) (S1 := []) (c_By_addNumber F4.1 (nI ((wr_m2 p k i (b, f, r, s, q)).2.1).1) 2 (by decide)) d_Wr_write_111 cw_By_addNumber ml_Wr_30 im_By_addNumber se_By_addNumber rfl x41 (by decide) rfl (Nat.le_of_ble_eq_true rfl) rfl rfl ?_
        rw [fw_b]
        have F5 : Fw (fw_up h (by_addN 1500 (nI ((wr_m2 p k i (b, f, r, s, q)).2.1).1) 2 0 (by_add 1500 (wr_b2 T i b) (nI (i * rf_ln k)))) (wr_m1 p k i (b, f, r, s, q)).1 (wr_m2 p k i (b, f, r, s, q)).2.1 (wr_m2 p k i (b, f, r, s, q)).2.2.1 (wr_m2 p k i (b, f, r, s, q)).2.2.2) (by_addN 1500 (nI ((wr_m2 p k i (b, f, r, s, q)).2.1).1) 2 0 (by_add 1500 (wr_b2 T i b) (nI (i * rf_ln k)))) (wr_m1 p k i (b, f, r, s, q)).1 (wr_m2 p k i (b, f, r, s, q)).2.1 (wr_m2 p k i (b, f, r, s, q)).2.2.1 (wr_m2 p k i (b, f, r, s, q)).2.2.2 a l t st m p := F.up (by_addN_le _ _ _ _ F4.1.2.2.1) hm.1 hm.2.1 hm.2.2
        have G5 := F5.2.1.1.2.1
        have x51 := F5.1.1
        have x52 := F5.1.2.1
        have x53 := G5.1
        have x54 := G5.2.1
        refine mj_aload_n d_Wr_write_114 rfl ?_
        refine mj_aload d_Wr_write_115 rfl ?_
        refine mj_iconst (v := 0) d_Wr_write_117 (by decide) ?_
        refine mj_aload d_Wr_write_118 rfl ?_
        refine mj_get ok_By (k := 1) (by decide) fl_Wr_26 d_Wr_write_120 x53 rfl ?_
        refine mj_cV (S := []) (S1 := []) (c_By_addPart F5.1 G5 (by decide) (by decide) 0 ((wr_m2 p k i (b, f, r, s, q)).2.1).1 (by decide) (by have := G5.2.2.1; omega)) d_Wr_write_123 cw_By_addPart ml_Wr_50 im_By_addPart se_By_addPart rfl x51 (by decide) rfl (Nat.le_of_ble_eq_true rfl) rfl rfl ?_
        rw [fw_b]
        obtain ⟨v1, e_v1⟩ : ∃ q_ : Int32, q_ = (nI i) + 1 := ⟨_, rfl⟩
        refine mj_iinc (x := (nI i)) (v := v1) (L' := [some (.ref 13), some (.ref a), some (.int (nI k)), some (.ref 1), some (.ref 3), some (.int (nI (pi_chs p k))), some (.int (nI T)), some (.int v1), some (.int (nI (i * rf_ln k))), some (.ref 4)]) d_Wr_write_126 rfl (by rw [e_v1]; rfl) (by decide) rfl rfl ?_
        refine mj_goto (tgt := 36) d_Wr_write_129 (by decide) ?_
        rw [e_v1, nI_1]
        refine mj_fg 8 (L' := [some (.ref 13), some (.ref a), some (.int (nI k)), some (.ref 1), some (.ref 3), some (.int (nI (pi_chs p k))), some (.int (nI T)), some (.int (nI (i + 1))), none, some (.ref 4)]) rfl ?_
        refine mj_fg 9 (L' := [some (.ref 13), some (.ref a), some (.int (nI k)), some (.ref 1), some (.ref 3), some (.int (nI (pi_chs p k))), some (.int (nI T)), some (.int (nI (i + 1))), none, none]) rfl ?_
        have es : wr_st p k T i (b, f, r, s, q) = (by_addP 1500 ((wr_m2 p k i (b, f, r, s, q)).2.1) ((wr_m2 p k i (b, f, r, s, q)).2.1).1 0 (by_addN 1500 (nI ((wr_m2 p k i (b, f, r, s, q)).2.1).1) 2 0 (by_add 1500 (wr_b2 T i b) (nI (i * rf_ln k)))), (wr_m1 p k i (b, f, r, s, q)).1, (wr_m2 p k i (b, f, r, s, q)).2.1, (wr_m2 p k i (b, f, r, s, q)).2.2.1, (wr_m2 p k i (b, f, r, s, q)).2.2.2) := by unfold wr_st; rw [em]; rfl
        have F6 : Fw (fw_up h (by_addP 1500 ((wr_m2 p k i (b, f, r, s, q)).2.1) ((wr_m2 p k i (b, f, r, s, q)).2.1).1 0 (by_addN 1500 (nI ((wr_m2 p k i (b, f, r, s, q)).2.1).1) 2 0 (by_add 1500 (wr_b2 T i b) (nI (i * rf_ln k))))) (wr_m1 p k i (b, f, r, s, q)).1 (wr_m2 p k i (b, f, r, s, q)).2.1 (wr_m2 p k i (b, f, r, s, q)).2.2.1 (wr_m2 p k i (b, f, r, s, q)).2.2.2) (by_addP 1500 ((wr_m2 p k i (b, f, r, s, q)).2.1) ((wr_m2 p k i (b, f, r, s, q)).2.1).1 0 (by_addN 1500 (nI ((wr_m2 p k i (b, f, r, s, q)).2.1).1) 2 0 (by_add 1500 (wr_b2 T i b) (nI (i * rf_ln k))))) (wr_m1 p k i (b, f, r, s, q)).1 (wr_m2 p k i (b, f, r, s, q)).2.1 (wr_m2 p k i (b, f, r, s, q)).2.2.1 (wr_m2 p k i (b, f, r, s, q)).2.2.2 a l t st m p := F.up (by_addP_le _ _ _ _ F5.1.2.2.1) hm.1 hm.2.1 hm.2.2
        rw [show wr_lp p k T (j + 1) i (b, f, r, s, q) = wr_lp p k T j (i + 1) (by_addP 1500 ((wr_m2 p k i (b, f, r, s, q)).2.1) ((wr_m2 p k i (b, f, r, s, q)).2.1).1 0 (by_addN 1500 (nI ((wr_m2 p k i (b, f, r, s, q)).2.1).1) 2 0 (by_add 1500 (wr_b2 T i b) (nI (i * rf_ln k)))), (wr_m1 p k i (b, f, r, s, q)).1, (wr_m2 p k i (b, f, r, s, q)).2.1, (wr_m2 p k i (b, f, r, s, q)).2.2.1, (wr_m2 p k i (b, f, r, s, q)).2.2.2) by rw [wr_lp, es]] at kk
        refine ih (i + 1) _ _ _ _ _ _ F6 (by omega) ?_
        exact mj_hp fw_uu.symm kk
      · rw [e6]
        have em : wr_md (wr_m2 p k i (b, f, r, s, q)) = (wr_m2 p k i (b, f, r, s, q)).2.2.2 := by unfold wr_md; rw [if_pos e6]
        have x31 := F3.1.1
        refine mj_astore (L' := [some (.ref 13), some (.ref a), some (.int (nI k)), some (.ref 1), some (.ref 3), some (.int (nI (pi_chs p k))), some (.int (nI T)), some (.int (nI i)), some (.int (nI (i * rf_ln k))), some (.ref 6)]) d_Wr_write_96 (by decide) rfl rfl ?_
        refine mj_aload_n d_Wr_write_98 rfl ?_
        refine mj_iload d_Wr_write_99 rfl ?_
        refine mj_cV (S := []) (S1 := []) (c_By_add F3.1 (nI (i * rf_ln k))) d_Wr_write_101 cw_By_add ml_Wr_46 im_By_add se_By_add rfl x31 (by decide) rfl (Nat.le_of_ble_eq_true rfl) rfl rfl ?_
        rw [fw_b]
        have F4 : Fw (fw_up h (by_add 1500 (wr_b2 T i b) (nI (i * rf_ln k))) (wr_m1 p k i (b, f, r, s, q)).1 (wr_m2 p k i (b, f, r, s, q)).2.1 (wr_m2 p k i (b, f, r, s, q)).2.2.1 (wr_m2 p k i (b, f, r, s, q)).2.2.2) (by_add 1500 (wr_b2 T i b) (nI (i * rf_ln k))) (wr_m1 p k i (b, f, r, s, q)).1 (wr_m2 p k i (b, f, r, s, q)).2.1 (wr_m2 p k i (b, f, r, s, q)).2.2.1 (wr_m2 p k i (b, f, r, s, q)).2.2.2 a l t st m p := F.up (by_add_le _ F3.1.2.2.1) hm.1 hm.2.1 hm.2.2
        have G4 := F4.2.2.2
        have x41 := F4.1.1
        have x42 := F4.1.2.1
        have x43 := G4.1
        have x44 := G4.2.1
        refine mj_aload_n d_Wr_write_104 rfl ?_
        refine mj_aload d_Wr_write_105 rfl ?_
        refine mj_get ok_By (k := 1) (by decide) fl_Wr_26 d_Wr_write_107 x43 rfl ?_
        refine mj_iconst (v := 2) d_Wr_write_110 (by decide) ?_
        refine mj_cV (S := []) (S1 := []) (c_By_addNumber F4.1 (nI ((wr_m2 p k i (b, f, r, s, q)).2.2.2).1) 2 (by decide)) d_Wr_write_111 cw_By_addNumber ml_Wr_30 im_By_addNumber se_By_addNumber rfl x41 (by decide) rfl (Nat.le_of_ble_eq_true rfl) rfl rfl ?_
        rw [fw_b]
        have F5 : Fw (fw_up h (by_addN 1500 (nI ((wr_m2 p k i (b, f, r, s, q)).2.2.2).1) 2 0 (by_add 1500 (wr_b2 T i b) (nI (i * rf_ln k)))) (wr_m1 p k i (b, f, r, s, q)).1 (wr_m2 p k i (b, f, r, s, q)).2.1 (wr_m2 p k i (b, f, r, s, q)).2.2.1 (wr_m2 p k i (b, f, r, s, q)).2.2.2) (by_addN 1500 (nI ((wr_m2 p k i (b, f, r, s, q)).2.2.2).1) 2 0 (by_add 1500 (wr_b2 T i b) (nI (i * rf_ln k)))) (wr_m1 p k i (b, f, r, s, q)).1 (wr_m2 p k i (b, f, r, s, q)).2.1 (wr_m2 p k i (b, f, r, s, q)).2.2.1 (wr_m2 p k i (b, f, r, s, q)).2.2.2 a l t st m p := F.up (by_addN_le _ _ _ _ F4.1.2.2.1) hm.1 hm.2.1 hm.2.2
        have G5 := F5.2.2.2
        have x51 := F5.1.1
        have x52 := F5.1.2.1
        have x53 := G5.1
        have x54 := G5.2.1
        refine mj_aload_n d_Wr_write_114 rfl ?_
        refine mj_aload d_Wr_write_115 rfl ?_
        refine mj_iconst (v := 0) d_Wr_write_117 (by decide) ?_
        refine mj_aload d_Wr_write_118 rfl ?_
        refine mj_get ok_By (k := 1) (by decide) fl_Wr_26 d_Wr_write_120 x53 rfl ?_
        refine mj_cV (S := []) (S1 := []) (c_By_addPart F5.1 G5 (by decide) (by decide) 0 ((wr_m2 p k i (b, f, r, s, q)).2.2.2).1 (by decide) (by have := G5.2.2.1; omega)) d_Wr_write_123 cw_By_addPart ml_Wr_50 im_By_addPart se_By_addPart rfl x51 (by decide) rfl (Nat.le_of_ble_eq_true rfl) rfl rfl ?_
        rw [fw_b]
        obtain ⟨v2, e_v2⟩ : ∃ q_ : Int32, q_ = (nI i) + 1 := ⟨_, rfl⟩
        refine mj_iinc (x := (nI i)) (v := v2) (L' := [some (.ref 13), some (.ref a), some (.int (nI k)), some (.ref 1), some (.ref 3), some (.int (nI (pi_chs p k))), some (.int (nI T)), some (.int v2), some (.int (nI (i * rf_ln k))), some (.ref 6)]) d_Wr_write_126 rfl (by rw [e_v2]; rfl) (by decide) rfl rfl ?_
        refine mj_goto (tgt := 36) d_Wr_write_129 (by decide) ?_
        rw [e_v2, nI_1]
        refine mj_fg 8 (L' := [some (.ref 13), some (.ref a), some (.int (nI k)), some (.ref 1), some (.ref 3), some (.int (nI (pi_chs p k))), some (.int (nI T)), some (.int (nI (i + 1))), none, some (.ref 6)]) rfl ?_
        refine mj_fg 9 (L' := [some (.ref 13), some (.ref a), some (.int (nI k)), some (.ref 1), some (.ref 3), some (.int (nI (pi_chs p k))), some (.int (nI T)), some (.int (nI (i + 1))), none, none]) rfl ?_
        have es : wr_st p k T i (b, f, r, s, q) = (by_addP 1500 ((wr_m2 p k i (b, f, r, s, q)).2.2.2) ((wr_m2 p k i (b, f, r, s, q)).2.2.2).1 0 (by_addN 1500 (nI ((wr_m2 p k i (b, f, r, s, q)).2.2.2).1) 2 0 (by_add 1500 (wr_b2 T i b) (nI (i * rf_ln k)))), (wr_m1 p k i (b, f, r, s, q)).1, (wr_m2 p k i (b, f, r, s, q)).2.1, (wr_m2 p k i (b, f, r, s, q)).2.2.1, (wr_m2 p k i (b, f, r, s, q)).2.2.2) := by unfold wr_st; rw [em]; rfl
        have F6 : Fw (fw_up h (by_addP 1500 ((wr_m2 p k i (b, f, r, s, q)).2.2.2) ((wr_m2 p k i (b, f, r, s, q)).2.2.2).1 0 (by_addN 1500 (nI ((wr_m2 p k i (b, f, r, s, q)).2.2.2).1) 2 0 (by_add 1500 (wr_b2 T i b) (nI (i * rf_ln k))))) (wr_m1 p k i (b, f, r, s, q)).1 (wr_m2 p k i (b, f, r, s, q)).2.1 (wr_m2 p k i (b, f, r, s, q)).2.2.1 (wr_m2 p k i (b, f, r, s, q)).2.2.2) (by_addP 1500 ((wr_m2 p k i (b, f, r, s, q)).2.2.2) ((wr_m2 p k i (b, f, r, s, q)).2.2.2).1 0 (by_addN 1500 (nI ((wr_m2 p k i (b, f, r, s, q)).2.2.2).1) 2 0 (by_add 1500 (wr_b2 T i b) (nI (i * rf_ln k))))) (wr_m1 p k i (b, f, r, s, q)).1 (wr_m2 p k i (b, f, r, s, q)).2.1 (wr_m2 p k i (b, f, r, s, q)).2.2.1 (wr_m2 p k i (b, f, r, s, q)).2.2.2 a l t st m p := F.up (by_addP_le _ _ _ _ F5.1.2.2.1) hm.1 hm.2.1 hm.2.2
        rw [show wr_lp p k T (j + 1) i (b, f, r, s, q) = wr_lp p k T j (i + 1) (by_addP 1500 ((wr_m2 p k i (b, f, r, s, q)).2.2.2) ((wr_m2 p k i (b, f, r, s, q)).2.2.2).1 0 (by_addN 1500 (nI ((wr_m2 p k i (b, f, r, s, q)).2.2.2).1) 2 0 (by_add 1500 (wr_b2 T i b) (nI (i * rf_ln k)))), (wr_m1 p k i (b, f, r, s, q)).1, (wr_m2 p k i (b, f, r, s, q)).2.1, (wr_m2 p k i (b, f, r, s, q)).2.2.1, (wr_m2 p k i (b, f, r, s, q)).2.2.2) by rw [wr_lp, es]] at kk
        refine ih (i + 1) _ _ _ _ _ _ F6 (by omega) ?_
        exact mj_hp fw_uu.symm kk
set_option maxRecDepth 100000 in
set_option maxHeartbeats 4000000 in
theorem c_Wr_write {h : mj_H} {b : by_B} {f : Nat → Int32} {r s q : by_B} {a l t st m : Nat} {p : pi_P} (F : Fw h b f r s q a l t st m p) (hw : h[13]? = some (.inr (7, []))) {k : Nat} (hk : k < 4) : mj_Met M_Wr_write (5, 127, none) 0 0 [.ref 13, .ref a, .int (nI k), .ref 1, .ref 3] h (mj_q none (wr_fu h (wr_wr p k (b, f, r, s, q)))) := by
  obtain ⟨⟨f1, f2, f3, f4⟩, ⟨⟨⟨c0, ⟨b1, b2, b3, b4⟩, ⟨h1, h2, h3, h4, h5, ⟨n1, n2, n3, n4, n5, n6⟩, w1, w2, w3⟩, ⟨z1, z2, z3, z4, z5⟩, hok⟩, ⟨wa, wb⟩⟩, ⟨k0, k1, k2, k3, k4⟩, ⟨q1, q2, q3, q4⟩⟩⟩ := id F
  have hch : pi_chs p k ≤ 8 := by unfold pi_chs; split <;> omega
  refine mj_enter (r := 5) rfl rfl (by decide) rfl ?_
  show mj_W M_Wr_write _ _ _ _ 0 [some (.ref 13), some (.ref a), some (.int (nI k)), some (.ref 1), some (.ref 3), none, none, none, none, none] [] h
  refine mj_aload_n d_Wr_write_0 rfl ?_
  refine mj_cV (S := []) (S1 := []) (c_By_clear F.1) d_Wr_write_1 cw_By_clear ml_Wr_9 im_By_clear se_By_clear rfl f1 (by decide) rfl (Nat.le_of_ble_eq_true rfl) rfl rfl ?_
  rw [F.b]
  have F1 := F.up (b' := (0, 0, b.2.2)) (f' := f) (r' := r) (s' := s) (k' := q) (Nat.zero_le _) b3 k3 q3
  have x10 := F1.2.1.1.1
  have x11 := F1.1.1
  have x12 := F1.1.2.1
  have x13 := F1.2.1.1.2.2.1.1
  have x14 := hw
  rw [← fw_fr (b := (0, 0, b.2.2)) (f := f) (r := r) (s := s) (k := q) (show 13 ≤ 13 ∨ 13 = 0 ∨ 13 = 3 ∨ 13 = 8 ∨ 13 = 11 by decide)] at x14
  refine mj_aload_n d_Wr_write_4 rfl ?_
  refine mj_aload_n d_Wr_write_5 rfl ?_
  refine mj_iload_n d_Wr_write_6 rfl ?_
  refine mj_aload_n d_Wr_write_7 rfl ?_
  refine mj_cV (S := []) (S1 := []) (c_Wr_writeHead F1.1 F1.2.1.1.2.2.1 ⟨z1, z2, z3, z4, z5⟩ k) d_Wr_write_8 cw_Wr_writeHead ml_Wr_14 im_Wr_writeHead se_Wr_writeHead rfl x14 (by decide) rfl (Nat.le_of_ble_eq_true rfl) rfl rfl ?_
  rw [fw_b]
  have F2 := F.up (b' := wr_hd p k (0, 0, b.2.2)) (f' := f) (r' := r) (s' := s) (k' := q) (wr_hd_le _ _ _ (Nat.zero_le _)) b3 k3 q3
  have x20 := F2.2.1.1.1
  have x21 := F2.1.1
  have x22 := F2.1.2.1
  have x23 := F2.2.1.1.2.2.1.1
  have x24 := hw
  rw [← fw_fr (b := wr_hd p k (0, 0, b.2.2)) (f := f) (r := r) (s := s) (k := q) (show 13 ≤ 13 ∨ 13 = 0 ∨ 13 = 3 ∨ 13 = 8 ∨ 13 = 11 by decide)] at x24
  refine mj_aload_n d_Wr_write_11 rfl ?_
  refine mj_iload_n d_Wr_write_12 rfl ?_
  refine mj_cV (S := []) (S1 := [.int (nI (pi_chs p k))]) (c_Pi_chunks F2.2.1.1.2.2.1 (k := k) hk) d_Wr_write_13 cw_Pi_chunks ml_Wr_20 im_Pi_chunks se_Pi_chunks rfl x23 (by decide) rfl (Nat.le_of_ble_eq_true rfl) rfl rfl ?_
  refine mj_istore (L' := [some (.ref 13), some (.ref a), some (.int (nI k)), some (.ref 1), some (.ref 3), some (.int (nI (pi_chs p k))), none, none, none, none]) d_Wr_write_16 (by decide) rfl rfl ?_
  refine mj_aload_n d_Wr_write_18 rfl ?_
  refine mj_get ok_By (k := 1) (by decide) fl_Wr_26 d_Wr_write_19 x21 rfl ?_
  refine mj_istore (L' := [some (.ref 13), some (.ref a), some (.int (nI k)), some (.ref 1), some (.ref 3), some (.int (nI (pi_chs p k))), some (.int (nI (wr_hd p k (0, 0, b.2.2)).1)), none, none, none]) d_Wr_write_22 (by decide) rfl rfl ?_
  refine mj_aload_n d_Wr_write_24 rfl ?_
  refine mj_iconst (v := 0) d_Wr_write_25 (by decide) ?_
  refine mj_iconst (v := 2) d_Wr_write_26 (by decide) ?_
  refine mj_iload d_Wr_write_27 rfl ?_
  refine mj_imul d_Wr_write_29 ?_
  rw [show (2 : Int32) * nI (pi_chs p k) = nI (2 * pi_chs p k) from pk_mul 2 _]
  refine mj_cV (S := []) (S1 := []) (c_By_addNumber F2.1 0 (2 * pi_chs p k) (by unfold pi_chs; split <;> omega)) d_Wr_write_30 cw_By_addNumber ml_Wr_30 im_By_addNumber se_By_addNumber rfl x21 (by decide) rfl (Nat.le_of_ble_eq_true rfl) rfl rfl ?_
  rw [fw_b]
  have F3 := F.up (b' := by_addN 1500 0 (2 * pi_chs p k) 0 (wr_hd p k (0, 0, b.2.2))) (f' := f) (r' := r) (s' := s) (k' := q) (by_addN_le _ _ _ _ F2.1.2.2.1) b3 k3 q3
  have x30 := F3.2.1.1.1
  have x31 := F3.1.1
  have x32 := F3.1.2.1
  have x33 := F3.2.1.1.2.2.1.1
  have x34 := hw
  rw [← fw_fr (b := by_addN 1500 0 (2 * pi_chs p k) 0 (wr_hd p k (0, 0, b.2.2))) (f := f) (r := r) (s := s) (k := q) (show 13 ≤ 13 ∨ 13 = 0 ∨ 13 = 3 ∨ 13 = 8 ∨ 13 = 11 by decide)] at x34
  refine mj_iconst (v := 0) d_Wr_write_33 (by decide) ?_
  refine mj_istore (L' := [some (.ref 13), some (.ref a), some (.int (nI k)), some (.ref 1), some (.ref 3), some (.int (nI (pi_chs p k))), some (.int (nI (wr_hd p k (0, 0, b.2.2)).1)), some (.int 0), none, none]) d_Wr_write_34 (by decide) rfl rfl ?_
  refine lp_Wr_write (T := (wr_hd p k (0, 0, b.2.2)).1) hk (pi_chs p k) 0 _ _ _ _ _ _ F3 (by omega) ?_
  refine mj_vret rfl d_Wr_write_132 ⟨rfl, ?_⟩
  exact fw_uu
