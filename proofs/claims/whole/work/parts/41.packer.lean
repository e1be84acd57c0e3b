theorem By.idn {h : mj_H} {a c n : Nat} {b : by_B} (B : By h a c n b) : by_up h a c n b = h := B.id
def pa_st (b2 : by_B) : Nat → Nat → by_B → by_B
  | 0, _, b => b
  | n + 1, k, b => if k < b2.1 then pa_st b2 n (k + 2) (by_add 384 b (by_get b2 (nI k))) else b
theorem pa_st_le (b2 : by_B) : ∀ (n k : Nat) (b : by_B), b.1 ≤ 384 → (pa_st b2 n k b).1 ≤ 384
  | 0, _, _, h => h
  | n + 1, k, b, h => by
    rw [pa_st]
    split
    · exact pa_st_le b2 n (k + 2) _ (by_add_le _ h)
    · exact h
/-- first the even places, then the odd ones -/
def pa_srt (b2 b : by_B) : by_B := pa_st b2 b2.1 1 (pa_st b2 b2.1 0 (0, 0, b.2.2))
theorem pa_srt_le (b2 b : by_B) : (pa_srt b2 b).1 ≤ 384 := pa_st_le _ _ _ _ (pa_st_le _ _ _ _ (Nat.zero_le _))
/-- differences, from the right; sums, from the left -/
def pa_dif : Nat → by_B → by_B
  | 0, b => b
  | k + 1, b => pa_dif k (by_chg b (nI (k + 1)) (by_get b (nI (k + 1)) - by_get b (nI k) + 128))
def pa_sum : Nat → Nat → by_B → by_B
  | 0, _, b => b
  | j + 1, k, b => pa_sum j (k + 1) (by_chg b (nI k) (by_get b (nI k) + by_get b (nI (k - 1)) - 128))
theorem pa_dif_le : ∀ (k : Nat) (b : by_B), (pa_dif k b).1 = b.1
  | 0, _ => rfl
  | k + 1, b => by rw [pa_dif, pa_dif_le k, by_chg_le]
theorem pa_sum_le : ∀ (j k : Nat) (b : by_B), (pa_sum j k b).1 = b.1
  | 0, _, _ => rfl
  | j + 1, k, b => by rw [pa_sum, pa_sum_le j, by_chg_le]
/-- even and odd places back -/
def pa_uns (n : Nat) (b : by_B) : Nat → Nat → by_B → by_B
  | 0, _, t => t
  | j + 1, k, t => pa_uns n b j (k + 1) (by_add n t (by_get b (nI (if k % 2 = 0 then k / 2 else (b.1 + 1) / 2 + k / 2))))
theorem pa_uns_le {n : Nat} (b : by_B) : ∀ (j k : Nat) (t : by_B), t.1 ≤ n → (pa_uns n b j k t).1 ≤ n
  | 0, _, _, h => h
  | j + 1, k, t, h => pa_uns_le b j (k + 1) _ (by_add_le _ h)
set_option maxRecDepth 100000 in
set_option maxHeartbeats 4000000 in
theorem lp_Pa_sort_e {Q : mj_E → mj_H → Prop} {a sa sc fa fc n2 kc ks : Nat} {b2 : by_B} (hn1 : sa ≠ fa) (hn2 : sc ≠ fc) (hb2 : b2.1 < 2 ^ 30) : ∀ (n k : Nat) (b : by_B) (h : mj_H), Pk h a sa sc b → By h fa fc n2 b2 → b2.1 ≤ k + n → k < 2 ^ 30 + 2 → mj_W M_Pa_sort Q (1, 21, none) kc ks 35 [some (.ref a), some (.ref fa), none] [] (by_up h sa sc 384 (pa_st b2 n k b)) → mj_W M_Pa_sort Q (1, 21, none) kc ks 9 [some (.ref a), some (.ref fa), some (.int (nI k))] [] h := by
  intro n
  induction n with
  | zero =>
    intro k b h K B2 hk hk2 kk
    obtain ⟨h0, h1, h2, h3, h4⟩ := id K
    obtain ⟨g1, g2, g3, g4⟩ := id B2
    refine mj_iload_n d_Pa_sort_9 rfl ?_
    refine mj_aload_n d_Pa_sort_10 rfl ?_
    refine mj_get ok_By (k := 1) (by decide) fl_Pa_24 d_Pa_sort_11 g1 rfl ?_
    refine mj_icmp_ge (tgt := 35) d_Pa_sort_14 (by decide) (fun c_14 => ?_) (fun c_14 => ?_)
    · refine mj_fg 2 (L' := [some (.ref a), some (.ref fa), none]) rfl ?_
      rw [show pa_st b2 0 k b = b from rfl, K.2.idn] at kk
      exact kk
    · exact absurd (nI_le (by omega) (by omega)) c_14
  | succ n ih =>
    intro k b h K B2 hk hk2 kk
    obtain ⟨h0, h1, h2, h3, h4⟩ := id K
    obtain ⟨g1, g2, g3, g4⟩ := id B2
    refine mj_iload_n d_Pa_sort_9 rfl ?_
    refine mj_aload_n d_Pa_sort_10 rfl ?_
    refine mj_get ok_By (k := 1) (by decide) fl_Pa_24 d_Pa_sort_11 g1 rfl ?_
    refine mj_icmp_ge (tgt := 35) d_Pa_sort_14 (by decide) (fun c_14 => ?_) (fun c_14 => ?_)
    · have hge : ¬ k < b2.1 := fun q => nI_ge q (by omega) c_14
      refine mj_fg 2 (L' := [some (.ref a), some (.ref fa), none]) rfl ?_
      rw [show pa_st b2 (n + 1) k b = b by rw [pa_st, if_neg hge], K.2.idn] at kk
      exact kk
    · have hlt : k < b2.1 := by
        rcases Nat.lt_or_ge (k) (b2.1) with q | q
        · exact q
        · exact absurd (nI_le q (by omega)) c_14
      refine mj_aload_n d_Pa_sort_17 rfl ?_
      refine mj_get ok_Pa (k := 0) (by decide) fl_Pa_14 d_Pa_sort_18 h0 rfl ?_
      refine mj_aload_n d_Pa_sort_21 rfl ?_
      refine mj_iload_n d_Pa_sort_22 rfl ?_
      refine mj_cV (S := [.ref sa]) (S1 := [.int (by_get b2 (nI k)), .ref sa]) (c_By_at B2 (nI k)) d_Pa_sort_23 cw_By_at ml_Pa_28 im_By_at se_By_at rfl g1 (by decide) rfl (Nat.le_of_ble_eq_true rfl) rfl rfl ?_
      refine mj_cV (S := []) (S1 := []) (c_By_add K.2 _) d_Pa_sort_26 cw_By_add ml_Pa_42 im_By_add se_By_add rfl h1 (by decide) rfl (Nat.le_of_ble_eq_true rfl) rfl rfl ?_
      obtain ⟨v1, e_v1⟩ : ∃ q_ : Int32, q_ = (nI k) + 2 := ⟨_, rfl⟩
      refine mj_iinc (x := (nI k)) (v := v1) (L' := [some (.ref a), some (.ref fa), some (.int v1)]) d_Pa_sort_29 rfl (by rw [e_v1]; rfl) (by decide) rfl rfl ?_
      refine mj_goto (tgt := 9) d_Pa_sort_32 (by decide) ?_
      rw [e_v1, show (2 : Int32) = nI 2 from rfl, nI_add]
      rw [show pa_st b2 (n + 1) k b = pa_st b2 n (k + 2) (by_add 384 b (by_get b2 (nI k))) by rw [pa_st, if_pos hlt]] at kk
      refine ih (k + 2) _ _ (K.up (by_add_le _ h3)) (K.2.oth B2 hn1 hn2) (by omega) (by omega) ?_
      rw [K.2.upup]
      exact kk
set_option maxRecDepth 100000 in
set_option maxHeartbeats 4000000 in
theorem lp_Pa_sort_o {Q : mj_E → mj_H → Prop} {a sa sc fa fc n2 kc ks : Nat} {b2 : by_B} (hn1 : sa ≠ fa) (hn2 : sc ≠ fc) (hb2 : b2.1 < 2 ^ 30) : ∀ (n k : Nat) (b : by_B) (h : mj_H), Pk h a sa sc b → By h fa fc n2 b2 → b2.1 ≤ k + n → k < 2 ^ 30 + 2 → mj_W M_Pa_sort Q (1, 21, none) kc ks 63 [some (.ref a), some (.ref fa), none] [] (by_up h sa sc 384 (pa_st b2 n k b)) → mj_W M_Pa_sort Q (1, 21, none) kc ks 37 [some (.ref a), some (.ref fa), some (.int (nI k))] [] h := by
  intro n
  induction n with
  | zero =>
    intro k b h K B2 hk hk2 kk
    obtain ⟨h0, h1, h2, h3, h4⟩ := id K
    obtain ⟨g1, g2, g3, g4⟩ := id B2
    refine mj_iload_n d_Pa_sort_37 rfl ?_
    refine mj_aload_n d_Pa_sort_38 rfl ?_
    refine mj_get ok_By (k := 1) (by decide) fl_Pa_24 d_Pa_sort_39 g1 rfl ?_
    refine mj_icmp_ge (tgt := 63) d_Pa_sort_42 (by decide) (fun c_42 => ?_) (fun c_42 => ?_)
    · refine mj_fg 2 (L' := [some (.ref a), some (.ref fa), none]) rfl ?_
      rw [show pa_st b2 0 k b = b from rfl, K.2.idn] at kk
      exact kk
    · exact absurd (nI_le (by omega) (by omega)) c_42
  | succ n ih =>
    intro k b h K B2 hk hk2 kk
    obtain ⟨h0, h1, h2, h3, h4⟩ := id K
    obtain ⟨g1, g2, g3, g4⟩ := id B2
    refine mj_iload_n d_Pa_sort_37 rfl ?_
    refine mj_aload_n d_Pa_sort_38 rfl ?_
    refine mj_get ok_By (k := 1) (by decide) fl_Pa_24 d_Pa_sort_39 g1 rfl ?_
    refine mj_icmp_ge (tgt := 63) d_Pa_sort_42 (by decide) (fun c_42 => ?_) (fun c_42 => ?_)
    · have hge : ¬ k < b2.1 := fun q => nI_ge q (by omega) c_42
      refine mj_fg 2 (L' := [some (.ref a), some (.ref fa), none]) rfl ?_
      rw [show pa_st b2 (n + 1) k b = b by rw [pa_st, if_neg hge], K.2.idn] at kk
      exact kk
    · have hlt : k < b2.1 := by
        rcases Nat.lt_or_ge (k) (b2.1) with q | q
        · exact q
        · exact absurd (nI_le q (by omega)) c_42
      refine mj_aload_n d_Pa_sort_45 rfl ?_
      refine mj_get ok_Pa (k := 0) (by decide) fl_Pa_14 d_Pa_sort_46 h0 rfl ?_
      refine mj_aload_n d_Pa_sort_49 rfl ?_
      refine mj_iload_n d_Pa_sort_50 rfl ?_
      refine mj_cV (S := [.ref sa]) (S1 := [.int (by_get b2 (nI k)), .ref sa]) (c_By_at B2 (nI k)) d_Pa_sort_51 cw_By_at ml_Pa_28 im_By_at se_By_at rfl g1 (by decide) rfl (Nat.le_of_ble_eq_true rfl) rfl rfl ?_
      refine mj_cV (S := []) (S1 := []) (c_By_add K.2 _) d_Pa_sort_54 cw_By_add ml_Pa_42 im_By_add se_By_add rfl h1 (by decide) rfl (Nat.le_of_ble_eq_true rfl) rfl rfl ?_
      obtain ⟨v1, e_v1⟩ : ∃ q_ : Int32, q_ = (nI k) + 2 := ⟨_, rfl⟩
      refine mj_iinc (x := (nI k)) (v := v1) (L' := [some (.ref a), some (.ref fa), some (.int v1)]) d_Pa_sort_57 rfl (by rw [e_v1]; rfl) (by decide) rfl rfl ?_
      refine mj_goto (tgt := 37) d_Pa_sort_60 (by decide) ?_
      rw [e_v1, show (2 : Int32) = nI 2 from rfl, nI_add]
      rw [show pa_st b2 (n + 1) k b = pa_st b2 n (k + 2) (by_add 384 b (by_get b2 (nI k))) by rw [pa_st, if_pos hlt]] at kk
      refine ih (k + 2) _ _ (K.up (by_add_le _ h3)) (K.2.oth B2 hn1 hn2) (by omega) (by omega) ?_
      rw [K.2.upup]
      exact kk
set_option maxRecDepth 100000 in
set_option maxHeartbeats 4000000 in
theorem c_Pa_sort {h : mj_H} {a sa sc fa fc n2 : Nat} {b b2 : by_B} (K : Pk h a sa sc b) (B2 : By h fa fc n2 b2) (hn1 : sa ≠ fa) (hn2 : sc ≠ fc) (hb2 : b2.1 < 2 ^ 30) : mj_Met M_Pa_sort (1, 21, none) 0 0 [.ref a, .ref fa] h (mj_q none (by_up h sa sc 384 (pa_srt b2 b))) := by
  obtain ⟨h0, h1, h2, h3, h4⟩ := id K
  obtain ⟨g1, g2, g3, g4⟩ := id B2
  refine mj_enter (r := 1) rfl rfl (by decide) rfl ?_
  show mj_W M_Pa_sort _ _ _ _ 0 [some (.ref a), some (.ref fa), none] [] h
  refine mj_aload_n d_Pa_sort_0 rfl ?_
  refine mj_get ok_Pa (k := 0) (by decide) fl_Pa_14 d_Pa_sort_1 h0 rfl ?_
  refine mj_cV (S := []) (S1 := []) (c_By_clear K.2) d_Pa_sort_4 cw_By_clear ml_Pa_36 im_By_clear se_By_clear rfl h1 (by decide) rfl (Nat.le_of_ble_eq_true rfl) rfl rfl ?_
  refine mj_iconst (v := 0) d_Pa_sort_7 (by decide) ?_
  refine mj_istore_n (L' := [some (.ref a), some (.ref fa), some (.int 0)]) d_Pa_sort_8 (by decide) rfl rfl ?_
  have K1 : Pk (by_up h sa sc 384 (0, 0, b.2.2)) a sa sc (0, 0, b.2.2) := K.up (b' := (0, 0, b.2.2)) (Nat.zero_le _)
  have B3 := K.2.oth (b' := (0, 0, b.2.2)) B2 hn1 hn2
  refine lp_Pa_sort_e hn1 hn2 hb2 b2.1 0 _ _ K1 B3 (by omega) (by omega) ?_
  rw [K.2.upup]
  refine mj_iconst (v := 1) d_Pa_sort_35 (by decide) ?_
  refine mj_istore_n (L' := [some (.ref a), some (.ref fa), some (.int 1)]) d_Pa_sort_36 (by decide) rfl rfl ?_
  refine lp_Pa_sort_o hn1 hn2 hb2 b2.1 1 _ _ (K.up (pa_st_le _ _ _ _ (Nat.zero_le _))) (K.2.oth B2 hn1 hn2) (by omega) (by omega) ?_
  rw [K.2.upup]
  exact mj_vret rfl d_Pa_sort_63 ⟨rfl, rfl⟩
set_option maxRecDepth 100000 in
set_option maxHeartbeats 4000000 in
theorem lp_Pa_unsort_s {Q : mj_E → mj_H → Prop} {a sa sc ta kc ks : Nat} : ∀ (j k : Nat) (b : by_B) (h : mj_H), Pk h a sa sc b → k + j = b.1 → 1 ≤ k → mj_W M_Pa_unsort Q (1, 22, none) kc ks 50 [some (.ref a), some (.ref ta), none, none] [] (by_up h sa sc 384 (pa_sum j k b)) → mj_W M_Pa_unsort Q (1, 22, none) kc ks 2 [some (.ref a), some (.ref ta), some (.int (nI k)), none] [] h := by
  intro j
  induction j with
  | zero =>
    intro k b h K hk hk1 kk
    obtain ⟨h0, h1, h2, h3, h4⟩ := id K
    refine mj_iload_n d_Pa_unsort_2 rfl ?_
    refine mj_aload_n d_Pa_unsort_3 rfl ?_
    refine mj_get ok_Pa (k := 0) (by decide) fl_Pa_14 d_Pa_unsort_4 h0 rfl ?_
    refine mj_get ok_By (k := 1) (by decide) fl_Pa_24 d_Pa_unsort_7 h1 rfl ?_
    refine mj_icmp_ge (tgt := 50) d_Pa_unsort_10 (by decide) (fun c_10 => ?_) (fun c_10 => ?_)
    · refine mj_fg 2 (L' := [some (.ref a), some (.ref ta), none, none]) rfl ?_
      rw [show pa_sum 0 k b = b from rfl, K.2.idn] at kk
      exact kk
    · exact absurd (nI_le (by omega) (by omega)) c_10
  | succ j ih =>
    intro k b h K hk hk1 kk
    obtain ⟨h0, h1, h2, h3, h4⟩ := id K
    refine mj_iload_n d_Pa_unsort_2 rfl ?_
    refine mj_aload_n d_Pa_unsort_3 rfl ?_
    refine mj_get ok_Pa (k := 0) (by decide) fl_Pa_14 d_Pa_unsort_4 h0 rfl ?_
    refine mj_get ok_By (k := 1) (by decide) fl_Pa_24 d_Pa_unsort_7 h1 rfl ?_
    refine mj_icmp_ge (tgt := 50) d_Pa_unsort_10 (by decide) (fun c_10 => ?_) (fun c_10 => ?_)
    · exact absurd c_10 (nI_ge (by omega) (by omega))
    · refine mj_aload_n d_Pa_unsort_13 rfl ?_
      refine mj_get ok_Pa (k := 0) (by decide) fl_Pa_14 d_Pa_unsort_14 h0 rfl ?_
      refine mj_iload_n d_Pa_unsort_17 rfl ?_
      refine mj_aload_n d_Pa_unsort_18 rfl ?_
      refine mj_get ok_Pa (k := 0) (by decide) fl_Pa_14 d_Pa_unsort_19 h0 rfl ?_
      refine mj_iload_n d_Pa_unsort_22 rfl ?_
      refine mj_cV (S := [.int (nI k), .ref sa]) (S1 := [.int (by_get b (nI k)), .int (nI k), .ref sa]) (c_By_at K.2 (nI k)) d_Pa_unsort_23 cw_By_at ml_Pa_28 im_By_at se_By_at rfl h1 (by decide) rfl (Nat.le_of_ble_eq_true rfl) rfl rfl ?_
      refine mj_aload_n d_Pa_unsort_26 rfl ?_
      refine mj_get ok_Pa (k := 0) (by decide) fl_Pa_14 d_Pa_unsort_27 h0 rfl ?_
      refine mj_iload_n d_Pa_unsort_30 rfl ?_
      refine mj_iconst (v := 1) d_Pa_unsort_31 (by decide) ?_
      refine mj_isub d_Pa_unsort_32 ?_
      rw [show nI k - 1 = nI (k - 1) by rw [show (1 : Int32) = nI 1 from rfl, pk_sub hk1]]
      refine mj_cV (S := [.int (by_get b (nI k)), .int (nI k), .ref sa]) (S1 := [.int (by_get b (nI (k - 1))), .int (by_get b (nI k)), .int (nI k), .ref sa]) (c_By_at K.2 (nI (k - 1))) d_Pa_unsort_33 cw_By_at ml_Pa_28 im_By_at se_By_at rfl h1 (by decide) rfl (Nat.le_of_ble_eq_true rfl) rfl rfl ?_
      refine mj_iadd d_Pa_unsort_36 ?_
      refine mj_sipush (v := 128) d_Pa_unsort_37 (by decide) ?_
      refine mj_isub d_Pa_unsort_40 ?_
      refine mj_cV (S := []) (S1 := []) (c_By_change K.2 _ _) d_Pa_unsort_41 cw_By_change ml_Pa_32 im_By_change se_By_change rfl h1 (by decide) rfl (Nat.le_of_ble_eq_true rfl) rfl rfl ?_
      obtain ⟨v1, e_v1⟩ : ∃ q_ : Int32, q_ = (nI k) + 1 := ⟨_, rfl⟩
      refine mj_iinc (x := (nI k)) (v := v1) (L' := [some (.ref a), some (.ref ta), some (.int v1), none]) d_Pa_unsort_44 rfl (by rw [e_v1]; rfl) (by decide) rfl rfl ?_
      refine mj_goto (tgt := 2) d_Pa_unsort_47 (by decide) ?_
      rw [e_v1, nI_1]
      refine ih (k + 1) _ _ (K.up (by rw [by_chg_le]; exact h3)) (by rw [by_chg_le]; omega) (by omega) ?_
      rw [K.2.upup]
      exact kk
set_option maxRecDepth 100000 in
set_option maxHeartbeats 4000000 in
theorem lp_Pa_unsort_u {Q : mj_E → mj_H → Prop} {a sa sc ta tc n kc ks : Nat} {b : by_B} (hn1 : ta ≠ sa) (hn2 : tc ≠ sc) : ∀ (j k : Nat) (t : by_B) (h : mj_H), Pk h a sa sc b → By h ta tc n t → k + j = b.1 → mj_W M_Pa_unsort Q (1, 22, none) kc ks 113 [some (.ref a), some (.ref ta), some (.int (nI ((b.1 + 1) / 2))), none] [] (by_up h ta tc n (pa_uns n b j k t)) → mj_W M_Pa_unsort Q (1, 22, none) kc ks 68 [some (.ref a), some (.ref ta), some (.int (nI ((b.1 + 1) / 2))), some (.int (nI k))] [] h := by
  intro j
  induction j with
  | zero =>
    intro k t h K B hk kk
    obtain ⟨h0, h1, h2, h3, h4⟩ := id K
    obtain ⟨g1, g2, g3, g4⟩ := id B
    refine mj_iload_n d_Pa_unsort_68 rfl ?_
    refine mj_aload_n d_Pa_unsort_69 rfl ?_
    refine mj_get ok_Pa (k := 0) (by decide) fl_Pa_14 d_Pa_unsort_70 h0 rfl ?_
    refine mj_get ok_By (k := 1) (by decide) fl_Pa_24 d_Pa_unsort_73 h1 rfl ?_
    refine mj_icmp_ge (tgt := 113) d_Pa_unsort_76 (by decide) (fun c_76 => ?_) (fun c_76 => ?_)
    · refine mj_fg 3 (L' := [some (.ref a), some (.ref ta), some (.int (nI ((b.1 + 1) / 2))), none]) rfl ?_
      rw [show pa_uns n b 0 k t = t from rfl, B.idn] at kk
      exact kk
    · exact absurd (nI_le (by omega) (by omega)) c_76
  | succ j ih =>
    intro k t h K B hk kk
    obtain ⟨h0, h1, h2, h3, h4⟩ := id K
    obtain ⟨g1, g2, g3, g4⟩ := id B
    refine mj_iload_n d_Pa_unsort_68 rfl ?_
    refine mj_aload_n d_Pa_unsort_69 rfl ?_
    refine mj_get ok_Pa (k := 0) (by decide) fl_Pa_14 d_Pa_unsort_70 h0 rfl ?_
    refine mj_get ok_By (k := 1) (by decide) fl_Pa_24 d_Pa_unsort_73 h1 rfl ?_
    refine mj_icmp_ge (tgt := 113) d_Pa_unsort_76 (by decide) (fun c_76 => ?_) (fun c_76 => ?_)
    · exact absurd c_76 (nI_ge (by omega) (by omega))
    · refine mj_aload_n d_Pa_unsort_79 rfl ?_
      refine mj_aload_n d_Pa_unsort_80 rfl ?_
      refine mj_get ok_Pa (k := 0) (by decide) fl_Pa_14 d_Pa_unsort_81 h0 rfl ?_
      refine mj_iload_n d_Pa_unsort_84 rfl ?_
      refine mj_iconst (v := 2) d_Pa_unsort_85 (by decide) ?_
      refine mj_irem d_Pa_unsort_86 (by decide) ?_
      refine mj_if_ne (tgt := 96) d_Pa_unsort_87 (by decide) (fun c_87 => ?_) (fun c_87 => ?_)
      · refine mj_iload_n d_Pa_unsort_96 rfl ?_
        refine mj_iload_n d_Pa_unsort_97 rfl ?_
        refine mj_iconst (v := 2) d_Pa_unsort_98 (by decide) ?_
        refine mj_idiv d_Pa_unsort_99 (by decide) ?_
        refine mj_iadd d_Pa_unsort_100 ?_
        rw [show nI k - nI k / 2 * 2 = nI (k % 2) from pk_rem (d := 2) (by omega) (by decide) (by decide)] at c_87
        rw [show nI k / 2 = nI (k / 2) from pk_div (d := 2) (by omega) (by decide) (by decide)]
        have g9 : ¬ k % 2 = 0 := fun q => c_87 (by rw [q]; rfl)
        rw [nI_add]
        have ge : (if k % 2 = 0 then k / 2 else (b.1 + 1) / 2 + k / 2) = (b.1 + 1) / 2 + k / 2 := if_neg g9
        rw [← ge]
        refine mj_cV (S := [.ref ta]) (S1 := [.int (by_get b (nI (if k % 2 = 0 then k / 2 else (b.1 + 1) / 2 + k / 2))), .ref ta]) (c_By_at K.2 (nI (if k % 2 = 0 then k / 2 else (b.1 + 1) / 2 + k / 2))) d_Pa_unsort_101 cw_By_at ml_Pa_28 im_By_at se_By_at rfl h1 (by decide) rfl (Nat.le_of_ble_eq_true rfl) rfl rfl ?_
        refine mj_cV (S := []) (S1 := []) (c_By_add B _) d_Pa_unsort_104 cw_By_add ml_Pa_42 im_By_add se_By_add rfl g1 (by decide) rfl (Nat.le_of_ble_eq_true rfl) rfl rfl ?_
        obtain ⟨v1, e_v1⟩ : ∃ q_ : Int32, q_ = (nI k) + 1 := ⟨_, rfl⟩
        refine mj_iinc (x := (nI k)) (v := v1) (L' := [some (.ref a), some (.ref ta), some (.int (nI ((b.1 + 1) / 2))), some (.int v1)]) d_Pa_unsort_107 rfl (by rw [e_v1]; rfl) (by decide) rfl rfl ?_
        refine mj_goto (tgt := 68) d_Pa_unsort_110 (by decide) ?_
        rw [e_v1, nI_1]
        refine ih (k + 1) _ _ (K.oth B hn1 hn2) (B.up (by_add_le _ g3)) (by omega) ?_
        rw [B.upup]
        exact kk
      · refine mj_iload_n d_Pa_unsort_90 rfl ?_
        refine mj_iconst (v := 2) d_Pa_unsort_91 (by decide) ?_
        refine mj_idiv d_Pa_unsort_92 (by decide) ?_
        refine mj_goto (tgt := 101) d_Pa_unsort_93 (by decide) ?_
        rw [show nI k - nI k / 2 * 2 = nI (k % 2) from pk_rem (d := 2) (by omega) (by decide) (by decide)] at c_87
        rw [show nI k / 2 = nI (k / 2) from pk_div (d := 2) (by omega) (by decide) (by decide)]
        have g9 : k % 2 = 0 := by rw [show (0 : Int32) = nI 0 from rfl, nI_eq (by omega) (by omega)] at c_87; exact c_87
        have ge : (if k % 2 = 0 then k / 2 else (b.1 + 1) / 2 + k / 2) = k / 2 := if_pos g9
        rw [← ge]
        refine mj_cV (S := [.ref ta]) (S1 := [.int (by_get b (nI (if k % 2 = 0 then k / 2 else (b.1 + 1) / 2 + k / 2))), .ref ta]) (c_By_at K.2 (nI (if k % 2 = 0 then k / 2 else (b.1 + 1) / 2 + k / 2))) d_Pa_unsort_101 cw_By_at ml_Pa_28 im_By_at se_By_at rfl h1 (by decide) rfl (Nat.le_of_ble_eq_true rfl) rfl rfl ?_
        refine mj_cV (S := []) (S1 := []) (c_By_add B _) d_Pa_unsort_104 cw_By_add ml_Pa_42 im_By_add se_By_add rfl g1 (by decide) rfl (Nat.le_of_ble_eq_true rfl) rfl rfl ?_
        obtain ⟨v2, e_v2⟩ : ∃ q_ : Int32, q_ = (nI k) + 1 := ⟨_, rfl⟩
        refine mj_iinc (x := (nI k)) (v := v2) (L' := [some (.ref a), some (.ref ta), some (.int (nI ((b.1 + 1) / 2))), some (.int v2)]) d_Pa_unsort_107 rfl (by rw [e_v2]; rfl) (by decide) rfl rfl ?_
        refine mj_goto (tgt := 68) d_Pa_unsort_110 (by decide) ?_
        rw [e_v2, nI_1]
        refine ih (k + 1) _ _ (K.oth B hn1 hn2) (B.up (by_add_le _ g3)) (by omega) ?_
        rw [B.upup]
        exact kk
