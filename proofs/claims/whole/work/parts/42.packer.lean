def pa_us (n : Nat) (b t : by_B) : by_B := pa_uns n (pa_sum (b.1 - 1) 1 b) b.1 0 (0, 0, t.2.2)
theorem pa_us_le (n : Nat) (b t : by_B) : (pa_us n b t).1 ≤ n := pa_uns_le _ _ _ _ (Nat.zero_le _)
set_option maxRecDepth 100000 in
set_option maxHeartbeats 4000000 in
theorem c_Pa_unsort {h : mj_H} {a sa sc ta tc n : Nat} {b t : by_B} (K : Pk h a sa sc b) (B : By h ta tc n t) (hn1 : ta ≠ sa) (hn2 : tc ≠ sc) (hb1 : 1 ≤ b.1) : mj_Met M_Pa_unsort (1, 22, none) 0 0 [.ref a, .ref ta] h (mj_q none (by_up (by_up h sa sc 384 (pa_sum (b.1 - 1) 1 b)) ta tc n (pa_us n b t))) := by
  obtain ⟨h0, h1, h2, h3, h4⟩ := id K
  obtain ⟨g1, g2, g3, g4⟩ := id B
  refine mj_enter (r := 2) rfl rfl (by decide) rfl ?_
  show mj_W M_Pa_unsort _ _ _ _ 0 [some (.ref a), some (.ref ta), none, none] [] h
  refine mj_iconst (v := 1) d_Pa_unsort_0 (by decide) ?_
  refine mj_istore_n (L' := [some (.ref a), some (.ref ta), some (.int 1), none]) d_Pa_unsort_1 (by decide) rfl rfl ?_
  refine lp_Pa_unsort_s (b.1 - 1) 1 b h K (by omega) (by omega) ?_
  have e1 : (pa_sum (b.1 - 1) 1 b).1 = b.1 := pa_sum_le _ _ _
  have K1 : Pk (by_up h sa sc 384 (pa_sum (b.1 - 1) 1 b)) a sa sc (pa_sum (b.1 - 1) 1 b) := K.up (by rw [e1]; exact h3)
  have B1 := K.2.oth (b' := pa_sum (b.1 - 1) 1 b) B (Ne.symm hn1) (Ne.symm hn2)
  have B2 := B1.up (b' := (0, 0, t.2.2)) (Nat.zero_le _)
  have K2 := K1.oth (b' := (0, 0, t.2.2)) B1 hn1 hn2
  obtain ⟨i0, i1, i2, i3, i4⟩ := id K2
  skip
  refine mj_aload_n d_Pa_unsort_50 rfl ?_
  refine mj_cV (S := []) (S1 := []) (c_By_clear B1) d_Pa_unsort_51 cw_By_clear ml_Pa_36 im_By_clear se_By_clear rfl B1.1 (by decide) rfl (Nat.le_of_ble_eq_true rfl) rfl rfl ?_
  refine mj_aload_n d_Pa_unsort_54 rfl ?_
  refine mj_get ok_Pa (k := 0) (by decide) fl_Pa_14 d_Pa_unsort_55 i0 rfl ?_
  refine mj_get ok_By (k := 1) (by decide) fl_Pa_24 d_Pa_unsort_58 i1 rfl ?_
  refine mj_iconst (v := 1) d_Pa_unsort_61 (by decide) ?_
  refine mj_iadd d_Pa_unsort_62 ?_
  refine mj_iconst (v := 2) d_Pa_unsort_63 (by decide) ?_
  refine mj_idiv d_Pa_unsort_64 (by decide) ?_
  rw [nI_1, show (2 : Int32) = nI 2 from rfl, pk_div (by omega) (by decide) (by decide)]
  refine mj_istore_n (L' := [some (.ref a), some (.ref ta), some (.int (nI (((pa_sum (b.1 - 1) 1 b).1 + 1) / 2))), none]) d_Pa_unsort_65 (by decide) rfl rfl ?_
  refine mj_iconst (v := 0) d_Pa_unsort_66 (by decide) ?_
  refine mj_istore_n (L' := [some (.ref a), some (.ref ta), some (.int (nI (((pa_sum (b.1 - 1) 1 b).1 + 1) / 2))), some (.int 0)]) d_Pa_unsort_67 (by decide) rfl rfl ?_
  refine lp_Pa_unsort_u hn1 hn2 (pa_sum (b.1 - 1) 1 b).1 0 _ _ K2 B2 (by omega) ?_
  rw [B1.upup]
  exact mj_vret rfl d_Pa_unsort_113 ⟨rfl, by rw [e1]; rfl⟩
set_option maxRecDepth 100000 in
set_option maxHeartbeats 4000000 in
theorem lp_Pa_pack_d {Q : mj_E → mj_H → Prop} {a sa sc fa ta kc ks : Nat} : ∀ (k : Nat) (b : by_B) (h : mj_H), Pk h a sa sc b → k < 2 ^ 30 → mj_W M_Pa_pack Q (3, 65, none) kc ks 56 [some (.ref a), some (.ref fa), some (.ref ta), none, none, none, none] [] (by_up h sa sc 384 (pa_dif k b)) → mj_W M_Pa_pack Q (3, 65, none) kc ks 15 [some (.ref a), some (.ref fa), some (.ref ta), some (.int (nI k)), none, none, none] [] h := by
  intro k
  induction k with
  | zero =>
    intro b h K hk kk
    obtain ⟨h0, h1, h2, h3, h4⟩ := id K
    refine mj_iload_n d_Pa_pack_15 rfl ?_
    refine mj_if_le (tgt := 56) d_Pa_pack_16 (by decide) (fun c_16 => ?_) (fun c_16 => ?_)
    · refine mj_fg 3 (L' := [some (.ref a), some (.ref fa), some (.ref ta), none, none, none, none]) rfl ?_
      rw [show pa_dif 0 b = b from rfl, K.2.idn] at kk
      exact kk
    · exact absurd (by decide) c_16
  | succ k ih =>
    intro b h K hk kk
    obtain ⟨h0, h1, h2, h3, h4⟩ := id K
    refine mj_iload_n d_Pa_pack_15 rfl ?_
    refine mj_if_le (tgt := 56) d_Pa_pack_16 (by decide) (fun c_16 => ?_) (fun c_16 => ?_)
    · exact absurd c_16 (nI_nle (by omega) (by omega))
    · refine mj_aload_n d_Pa_pack_19 rfl ?_
      refine mj_get ok_Pa (k := 0) (by decide) fl_Pa_14 d_Pa_pack_20 h0 rfl ?_
      refine mj_iload_n d_Pa_pack_23 rfl ?_
      refine mj_aload_n d_Pa_pack_24 rfl ?_
      refine mj_get ok_Pa (k := 0) (by decide) fl_Pa_14 d_Pa_pack_25 h0 rfl ?_
      refine mj_iload_n d_Pa_pack_28 rfl ?_
      refine mj_cV (S := [.int (nI (k + 1)), .ref sa]) (S1 := [.int (by_get b (nI (k + 1))), .int (nI (k + 1)), .ref sa]) (c_By_at K.2 (nI (k + 1))) d_Pa_pack_29 cw_By_at ml_Pa_28 im_By_at se_By_at rfl h1 (by decide) rfl (Nat.le_of_ble_eq_true rfl) rfl rfl ?_
      refine mj_aload_n d_Pa_pack_32 rfl ?_
      refine mj_get ok_Pa (k := 0) (by decide) fl_Pa_14 d_Pa_pack_33 h0 rfl ?_
      refine mj_iload_n d_Pa_pack_36 rfl ?_
      refine mj_iconst (v := 1) d_Pa_pack_37 (by decide) ?_
      refine mj_isub d_Pa_pack_38 ?_
      rw [show nI (k + 1) - 1 = nI k from nI_pred k]
      refine mj_cV (S := [.int (by_get b (nI (k + 1))), .int (nI (k + 1)), .ref sa]) (S1 := [.int (by_get b (nI k)), .int (by_get b (nI (k + 1))), .int (nI (k + 1)), .ref sa]) (c_By_at K.2 (nI k)) d_Pa_pack_39 cw_By_at ml_Pa_28 im_By_at se_By_at rfl h1 (by decide) rfl (Nat.le_of_ble_eq_true rfl) rfl rfl ?_
      refine mj_isub d_Pa_pack_42 ?_
      refine mj_sipush (v := 128) d_Pa_pack_43 (by decide) ?_
      refine mj_iadd d_Pa_pack_46 ?_
      refine mj_cV (S := []) (S1 := []) (c_By_change K.2 _ _) d_Pa_pack_47 cw_By_change ml_Pa_32 im_By_change se_By_change rfl h1 (by decide) rfl (Nat.le_of_ble_eq_true rfl) rfl rfl ?_
      obtain ⟨v1, e_v1⟩ : ∃ q_ : Int32, q_ = (nI (k + 1)) + (-1) := ⟨_, rfl⟩
      refine mj_iinc (x := (nI (k + 1))) (v := v1) (L' := [some (.ref a), some (.ref fa), some (.ref ta), some (.int v1), none, none, none]) d_Pa_pack_50 rfl (by rw [e_v1]; rfl) (by decide) rfl rfl ?_
      refine mj_goto (tgt := 15) d_Pa_pack_53 (by decide) ?_
      rw [e_v1, show nI (k + 1) + (-1) = nI k from pk_m1 k]
      refine ih _ _ (K.up (by rw [by_chg_le]; exact h3)) (by omega) ?_
      rw [K.2.upup]
      exact kk
def pa_run (n : Nat) (b : by_B) : Nat → Nat → by_B → by_B
  | 0, _, t => t
  | m + 1, pl, t => if pl < b.1 then (if 3 ≤ pa_al b pl then pa_run n b m (pl + pa_al b pl) (by_add n (by_add n t (nI (pa_al b pl) - 1)) (by_get b (nI pl))) else pa_run n b m (pa_un b pl) (by_addP n b (pa_un b pl - pl) pl (by_add n t (256 - (nI (pa_un b pl) - nI pl))))) else t
theorem pa_run_le {n : Nat} (b : by_B) : ∀ (m pl : Nat) (t : by_B), t.1 ≤ n → (pa_run n b m pl t).1 ≤ n
  | 0, _, _, h => h
  | m + 1, pl, t, h => by
    rw [pa_run]
    split
    · split
      · exact pa_run_le b m _ _ (by_add_le _ (by_add_le _ h))
      · exact pa_run_le b m _ _ (by_addP_le _ _ _ _ (by_add_le _ h))
    · exact h
theorem pa_al_in (b : by_B) {pl : Nat} (h : pl < b.1) : 1 ≤ pa_al b pl ∧ pl + pa_al b pl ≤ b.1 := by
  unfold pa_al
  have h1 := pa_alE_ge b pl b.1 (pl + 1)
  rcases pa_alE_le b pl b.1 (pl + 1) (Or.inl h) with q | q <;> omega
theorem pa_un_in (b : by_B) {pl : Nat} (h : pl < b.1) : pl + 1 ≤ pa_un b pl ∧ pa_un b pl ≤ b.1 := by
  unfold pa_un
  have h1 := pa_unE_ge b pl b.1 (pl + 1)
  rcases pa_unE_le b pl b.1 (pl + 1) with q | q <;> omega
set_option maxRecDepth 100000 in
set_option maxHeartbeats 4000000 in
theorem lp_Pa_pack_r {Q : mj_E → mj_H → Prop} {a sa sc fa ta tc n kc ks : Nat} {b : by_B} (hn1 : ta ≠ sa) (hn2 : tc ≠ sc) : ∀ (m pl rn : Nat) (t : by_B) (h : mj_H), Pk h a sa sc b → By h ta tc n t → b.1 ≤ pl + m → pl ≤ b.1 → rn ≤ pl → mj_W M_Pa_pack Q (3, 65, none) kc ks 164 [some (.ref a), some (.ref fa), some (.ref ta), none, none, none, none] [] (by_up h ta tc n (pa_run n b m pl t)) → mj_W M_Pa_pack Q (3, 65, none) kc ks 65 [some (.ref a), some (.ref fa), some (.ref ta), some (.int (nI pl)), some (.int (nI rn)), none, none] [] h := by
  intro m
  induction m with
  | zero =>
    intro pl rn t h K B hk hpl hrn kk
    obtain ⟨h0, h1, h2, h3, h4⟩ := id K
    obtain ⟨g1, g2, g3, g4⟩ := id B
    refine mj_iload d_Pa_pack_65 rfl ?_
    refine mj_sipush (v := 384) d_Pa_pack_67 (by decide) ?_
    refine mj_icmp_ge (tgt := 164) d_Pa_pack_70 (by decide) (fun c_70 => ?_) (fun c_70 => ?_)
    · refine mj_fg 3 (L' := [some (.ref a), some (.ref fa), some (.ref ta), none, some (.int (nI rn)), none, none]) rfl ?_
      refine mj_fg 4 (L' := [some (.ref a), some (.ref fa), some (.ref ta), none, none, none, none]) rfl ?_
      rw [show pa_run n b 0 pl t = t from rfl, B.idn] at kk
      exact kk
    · refine mj_iload_n d_Pa_pack_73 rfl ?_
      refine mj_aload_n d_Pa_pack_74 rfl ?_
      refine mj_get ok_Pa (k := 0) (by decide) fl_Pa_14 d_Pa_pack_75 h0 rfl ?_
      refine mj_get ok_By (k := 1) (by decide) fl_Pa_24 d_Pa_pack_78 h1 rfl ?_
      refine mj_icmp_ge (tgt := 164) d_Pa_pack_81 (by decide) (fun c_81 => ?_) (fun c_81 => ?_)
      · refine mj_fg 3 (L' := [some (.ref a), some (.ref fa), some (.ref ta), none, some (.int (nI rn)), none, none]) rfl ?_
        refine mj_fg 4 (L' := [some (.ref a), some (.ref fa), some (.ref ta), none, none, none, none]) rfl ?_
        rw [show pa_run n b 0 pl t = t from rfl, B.idn] at kk
        exact kk
      · exact absurd (nI_le (by omega) (by omega)) c_81
  | succ m ih =>
    intro pl rn t h K B hk hpl hrn kk
    obtain ⟨h0, h1, h2, h3, h4⟩ := id K
    obtain ⟨g1, g2, g3, g4⟩ := id B
    refine mj_iload d_Pa_pack_65 rfl ?_
    refine mj_sipush (v := 384) d_Pa_pack_67 (by decide) ?_
    refine mj_icmp_ge (tgt := 164) d_Pa_pack_70 (by decide) (fun c_70 => ?_) (fun c_70 => ?_)
    · rw [show (384 : Int32) = nI 384 from rfl] at c_70
      have hge : ¬ pl < b.1 := fun q => nI_ge (a := rn) (b := 384) (by omega) (by decide) c_70
      refine mj_fg 3 (L' := [some (.ref a), some (.ref fa), some (.ref ta), none, some (.int (nI rn)), none, none]) rfl ?_
      refine mj_fg 4 (L' := [some (.ref a), some (.ref fa), some (.ref ta), none, none, none, none]) rfl ?_
      rw [show pa_run n b (m + 1) pl t = t by rw [pa_run, if_neg hge], B.idn] at kk
      exact kk
    · refine mj_iload_n d_Pa_pack_73 rfl ?_
      refine mj_aload_n d_Pa_pack_74 rfl ?_
      refine mj_get ok_Pa (k := 0) (by decide) fl_Pa_14 d_Pa_pack_75 h0 rfl ?_
      refine mj_get ok_By (k := 1) (by decide) fl_Pa_24 d_Pa_pack_78 h1 rfl ?_
      refine mj_icmp_ge (tgt := 164) d_Pa_pack_81 (by decide) (fun c_81 => ?_) (fun c_81 => ?_)
      · have hge : ¬ pl < b.1 := fun q => nI_ge q (by omega) c_81
        refine mj_fg 3 (L' := [some (.ref a), some (.ref fa), some (.ref ta), none, some (.int (nI rn)), none, none]) rfl ?_
        refine mj_fg 4 (L' := [some (.ref a), some (.ref fa), some (.ref ta), none, none, none, none]) rfl ?_
        rw [show pa_run n b (m + 1) pl t = t by rw [pa_run, if_neg hge], B.idn] at kk
        exact kk
      · have hlt : pl < b.1 := by
          rcases Nat.lt_or_ge (pl) (b.1) with q | q
          · exact q
          · exact absurd (nI_le q (by omega)) c_81
        have ha := pa_al_in b hlt
        have hu := pa_un_in b hlt
        refine mj_aload_n d_Pa_pack_84 rfl ?_
        refine mj_iload_n d_Pa_pack_85 rfl ?_
        refine mj_cV (S := []) (S1 := [.int (nI (pa_al b pl))]) (c_Pa_alikeFrom K (pl := pl) (by omega)) d_Pa_pack_86 cw_Pa_alikeFrom ml_Pa_39 im_Pa_alikeFrom se_Pa_alikeFrom rfl h0 (by decide) rfl (Nat.le_of_ble_eq_true rfl) rfl rfl ?_
        refine mj_istore (L' := [some (.ref a), some (.ref fa), some (.ref ta), some (.int (nI pl)), some (.int (nI rn)), some (.int (nI (pa_al b pl))), none]) d_Pa_pack_89 (by decide) rfl rfl ?_
        refine mj_iload d_Pa_pack_91 rfl ?_
        refine mj_iconst (v := 3) d_Pa_pack_93 (by decide) ?_
        refine mj_icmp_lt (tgt := 125) d_Pa_pack_94 (by decide) (fun c_94 => ?_) (fun c_94 => ?_)
        · refine mj_aload_n d_Pa_pack_125 rfl ?_
          refine mj_iload_n d_Pa_pack_126 rfl ?_
          refine mj_cV (S := []) (S1 := [.int (nI (pa_un b pl))]) (c_Pa_endOfUnlike K (pl := pl) (by omega)) d_Pa_pack_127 cw_Pa_endOfUnlike ml_Pa_45 im_Pa_endOfUnlike se_Pa_endOfUnlike rfl h0 (by decide) rfl (Nat.le_of_ble_eq_true rfl) rfl rfl ?_
          refine mj_istore (L' := [some (.ref a), some (.ref fa), some (.ref ta), some (.int (nI pl)), some (.int (nI rn)), some (.int (nI (pa_al b pl))), some (.int (nI (pa_un b pl)))]) d_Pa_pack_130 (by decide) rfl rfl ?_
          refine mj_aload_n d_Pa_pack_132 rfl ?_
          refine mj_sipush (v := 256) d_Pa_pack_133 (by decide) ?_
          refine mj_iload d_Pa_pack_136 rfl ?_
          refine mj_iload_n d_Pa_pack_138 rfl ?_
          refine mj_isub d_Pa_pack_139 ?_
          refine mj_isub d_Pa_pack_140 ?_
          have K1 := K.oth (b' := by_add n t (256 - (nI (pa_un b pl) - nI pl))) B hn1 hn2
          have B1 := B.up (b' := by_add n t (256 - (nI (pa_un b pl) - nI pl))) (by_add_le _ g3)
          refine mj_cV (S := []) (S1 := []) (c_By_add B _) d_Pa_pack_141 cw_By_add ml_Pa_42 im_By_add se_By_add rfl g1 (by decide) rfl (Nat.le_of_ble_eq_true rfl) rfl rfl ?_
          refine mj_aload_n d_Pa_pack_144 rfl ?_
          refine mj_aload_n d_Pa_pack_145 rfl ?_
          refine mj_get ok_Pa (k := 0) (by decide) fl_Pa_14 d_Pa_pack_146 K1.1 rfl ?_
          refine mj_iload_n d_Pa_pack_149 rfl ?_
          refine mj_iload d_Pa_pack_150 rfl ?_
          refine mj_cV (S := []) (S1 := []) (c_By_addPart B1 K1.2 hn1 hn2 pl (pa_un b pl) (by omega) (by omega)) d_Pa_pack_152 cw_By_addPart ml_Pa_48 im_By_addPart se_By_addPart rfl B1.1 (by decide) rfl (Nat.le_of_ble_eq_true rfl) rfl rfl ?_
          rw [B.upup]
          refine mj_iload d_Pa_pack_155 rfl ?_
          refine mj_istore_n (L' := [some (.ref a), some (.ref fa), some (.ref ta), some (.int (nI (pa_un b pl))), some (.int (nI rn)), some (.int (nI (pa_al b pl))), some (.int (nI (pa_un b pl)))]) d_Pa_pack_157 (by decide) rfl rfl ?_
          obtain ⟨v1, e_v1⟩ : ∃ q_ : Int32, q_ = (nI rn) + 1 := ⟨_, rfl⟩
          refine mj_iinc (x := (nI rn)) (v := v1) (L' := [some (.ref a), some (.ref fa), some (.ref ta), some (.int (nI (pa_un b pl))), some (.int v1), some (.int (nI (pa_al b pl))), some (.int (nI (pa_un b pl)))]) d_Pa_pack_158 rfl (by rw [e_v1]; rfl) (by decide) rfl rfl ?_
          refine mj_goto (tgt := 65) d_Pa_pack_161 (by decide) ?_
          rw [e_v1, nI_1]
          rw [show (3 : Int32) = nI 3 from rfl] at c_94
          have h3a : ¬ 3 ≤ pa_al b pl := fun q => nI_nlt q (by omega) c_94
          refine mj_fg 5 (L' := [some (.ref a), some (.ref fa), some (.ref ta), some (.int (nI (pa_un b pl))), some (.int (nI (rn + 1))), none, some (.int (nI (pa_un b pl)))]) rfl ?_
          refine mj_fg 6 (L' := [some (.ref a), some (.ref fa), some (.ref ta), some (.int (nI (pa_un b pl))), some (.int (nI (rn + 1))), none, none]) rfl ?_
          rw [show pa_run n b (m + 1) pl t = pa_run n b m (pa_un b pl) (by_addP n b (pa_un b pl - pl) pl (by_add n t (256 - (nI (pa_un b pl) - nI pl)))) by rw [pa_run, if_pos hlt, if_neg h3a]] at kk
          refine ih (pa_un b pl) (rn + 1) _ _ (K.oth B hn1 hn2) (B.up (by_addP_le _ _ _ _ (by_add_le _ g3))) (by omega) (by omega) (by omega) ?_
          rw [B.upup]
          exact kk
        · refine mj_aload_n d_Pa_pack_97 rfl ?_
          refine mj_iload d_Pa_pack_98 rfl ?_
          refine mj_iconst (v := 1) d_Pa_pack_100 (by decide) ?_
          refine mj_isub d_Pa_pack_101 ?_
          have K1 := K.oth (b' := by_add n t (nI (pa_al b pl) - 1)) B hn1 hn2
          have B1 := B.up (b' := by_add n t (nI (pa_al b pl) - 1)) (by_add_le _ g3)
          refine mj_cV (S := []) (S1 := []) (c_By_add B _) d_Pa_pack_102 cw_By_add ml_Pa_42 im_By_add se_By_add rfl g1 (by decide) rfl (Nat.le_of_ble_eq_true rfl) rfl rfl ?_
          refine mj_aload_n d_Pa_pack_105 rfl ?_
          refine mj_aload_n d_Pa_pack_106 rfl ?_
          refine mj_get ok_Pa (k := 0) (by decide) fl_Pa_14 d_Pa_pack_107 K1.1 rfl ?_
          refine mj_iload_n d_Pa_pack_110 rfl ?_
          refine mj_cV (S := [.ref ta]) (S1 := [.int (by_get b (nI pl)), .ref ta]) (c_By_at K1.2 (nI pl)) d_Pa_pack_111 cw_By_at ml_Pa_28 im_By_at se_By_at rfl K1.2.1 (by decide) rfl (Nat.le_of_ble_eq_true rfl) rfl rfl ?_
          refine mj_cV (S := []) (S1 := []) (c_By_add B1 _) d_Pa_pack_114 cw_By_add ml_Pa_42 im_By_add se_By_add rfl B1.1 (by decide) rfl (Nat.le_of_ble_eq_true rfl) rfl rfl ?_
          rw [B.upup]
          refine mj_iload_n d_Pa_pack_117 rfl ?_
          refine mj_iload d_Pa_pack_118 rfl ?_
          refine mj_iadd d_Pa_pack_120 ?_
          refine mj_topi (fun v2 e_v2 => ?_)
          refine mj_istore_n (L' := [some (.ref a), some (.ref fa), some (.ref ta), some (.int v2), some (.int (nI rn)), some (.int (nI (pa_al b pl))), none]) d_Pa_pack_121 (by decide) rfl rfl ?_
          refine mj_goto (tgt := 158) d_Pa_pack_122 (by decide) ?_
          obtain ⟨v3, e_v3⟩ : ∃ q_ : Int32, q_ = (nI rn) + 1 := ⟨_, rfl⟩
          refine mj_iinc (x := (nI rn)) (v := v3) (L' := [some (.ref a), some (.ref fa), some (.ref ta), some (.int v2), some (.int v3), some (.int (nI (pa_al b pl))), none]) d_Pa_pack_158 rfl (by rw [e_v3]; rfl) (by decide) rfl rfl ?_
          refine mj_goto (tgt := 65) d_Pa_pack_161 (by decide) ?_
          rw [e_v3, nI_1]
          rw [show (3 : Int32) = nI 3 from rfl] at c_94
          have h3a : 3 ≤ pa_al b pl := by
            rcases Nat.lt_or_ge (pa_al b pl) 3 with q | q
            · exact absurd (nI_lt q (by decide)) c_94
            · exact q
          rw [nI_add] at e_v2
          rw [e_v2]
          refine mj_fg 5 (L' := [some (.ref a), some (.ref fa), some (.ref ta), some (.int (nI (pl + pa_al b pl))), some (.int (nI (rn + 1))), none, none]) rfl ?_
          rw [show pa_run n b (m + 1) pl t = pa_run n b m (pl + pa_al b pl) (by_add n (by_add n t (nI (pa_al b pl) - 1)) (by_get b (nI pl))) by rw [pa_run, if_pos hlt, if_pos h3a]] at kk
          refine ih (pl + pa_al b pl) (rn + 1) _ _ (K.oth B hn1 hn2) (B.up (by_add_le _ (by_add_le _ g3))) (by omega) (by omega) (by omega) ?_
          rw [B.upup]
          exact kk
def pa_pk (n : Nat) (b2 b t : by_B) : by_B := pa_run n (pa_dif ((pa_srt b2 b).1 - 1) (pa_srt b2 b)) (pa_srt b2 b).1 0 (0, 0, t.2.2)
def pa_ds (b2 b : by_B) : by_B := pa_dif ((pa_srt b2 b).1 - 1) (pa_srt b2 b)
theorem pa_pk_le (n : Nat) (b2 b t : by_B) : (pa_pk n b2 b t).1 ≤ n := pa_run_le _ _ _ _ (Nat.zero_le _)
theorem pa_ds_le (b2 b : by_B) : (pa_ds b2 b).1 ≤ 384 := by unfold pa_ds; rw [pa_dif_le]; exact pa_srt_le _ _
set_option maxRecDepth 100000 in
set_option maxHeartbeats 4000000 in
theorem c_Pa_pack {h : mj_H} {a sa sc fa fc n2 ta tc n : Nat} {b b2 t : by_B} (K : Pk h a sa sc b) (B2 : By h fa fc n2 b2) (B : By h ta tc n t) (hf1 : fa ≠ sa) (hf2 : fc ≠ sc) (hn1 : ta ≠ sa) (hn2 : tc ≠ sc) (hb2 : b2.1 < 2 ^ 30) : mj_Met M_Pa_pack (3, 65, none) 0 0 [.ref a, .ref fa, .ref ta] h (mj_q none (by_up (by_up h sa sc 384 (pa_ds b2 b)) ta tc n (pa_pk n b2 b t))) := by
  have K3 := K.up (pa_ds_le b2 b)
  have B3 := K.2.oth (b' := pa_ds b2 b) B (Ne.symm hn1) (Ne.symm hn2)
  have hfin : mj_W M_Pa_pack (mj_q none (by_up (by_up h sa sc 384 (pa_ds b2 b)) ta tc n (pa_pk n b2 b t))) (3, 65, none) 0 0 56 [some (.ref a), some (.ref fa), some (.ref ta), none, none, none, none] [] (by_up h sa sc 384 (pa_ds b2 b)) := by
    refine mj_aload_n d_Pa_pack_56 rfl ?_
    refine mj_cV (S := []) (S1 := []) (c_By_clear B3) d_Pa_pack_57 cw_By_clear ml_Pa_36 im_By_clear se_By_clear rfl B3.1 (by decide) rfl (Nat.le_of_ble_eq_true rfl) rfl rfl ?_
    refine mj_iconst (v := 0) d_Pa_pack_60 (by decide) ?_
    refine mj_istore_n (L' := [some (.ref a), some (.ref fa), some (.ref ta), some (.int 0), none, none, none]) d_Pa_pack_61 (by decide) rfl rfl ?_
    refine mj_iconst (v := 0) d_Pa_pack_62 (by decide) ?_
    refine mj_istore (L' := [some (.ref a), some (.ref fa), some (.ref ta), some (.int 0), some (.int 0), none, none]) d_Pa_pack_63 (by decide) rfl rfl ?_
    refine lp_Pa_pack_r hn1 hn2 (pa_srt b2 b).1 0 0 _ _ (K3.oth B3 hn1 hn2) (B3.up (Nat.zero_le _)) (by rw [show (pa_ds b2 b).1 = (pa_srt b2 b).1 from pa_dif_le _ _]; omega) (Nat.zero_le _) (Nat.le_refl _) ?_
    rw [B3.upup]
    exact mj_vret rfl d_Pa_pack_164 ⟨rfl, rfl⟩
  obtain ⟨h0, h1, h2, h3, h4⟩ := id K
  obtain ⟨f1, f2, f3, f4⟩ := id B2
  obtain ⟨g1, g2, g3, g4⟩ := id B
  refine mj_enter (r := 4) rfl rfl (by decide) rfl ?_
  show mj_W M_Pa_pack _ _ _ _ 0 [some (.ref a), some (.ref fa), some (.ref ta), none, none, none, none] [] h
  refine mj_aload_n d_Pa_pack_0 rfl ?_
  refine mj_aload_n d_Pa_pack_1 rfl ?_
  have K1 := K.up (pa_srt_le b2 b)
  have B1 := K.2.oth (b' := pa_srt b2 b) B (Ne.symm hn1) (Ne.symm hn2)
  have hle := pa_srt_le b2 b
  refine mj_cV (S := []) (S1 := []) (c_Pa_sort K B2 (Ne.symm hf1) (Ne.symm hf2) hb2) d_Pa_pack_2 cw_Pa_sort ml_Pa_20 im_Pa_sort se_Pa_sort rfl h0 (by decide) rfl (Nat.le_of_ble_eq_true rfl) rfl rfl ?_
  refine mj_aload_n d_Pa_pack_5 rfl ?_
  refine mj_get ok_Pa (k := 0) (by decide) fl_Pa_14 d_Pa_pack_6 K1.1 rfl ?_
  refine mj_get ok_By (k := 1) (by decide) fl_Pa_24 d_Pa_pack_9 K1.2.1 rfl ?_
  refine mj_iconst (v := 1) d_Pa_pack_12 (by decide) ?_
  refine mj_isub d_Pa_pack_13 ?_
  rcases Nat.eq_zero_or_pos (pa_srt b2 b).1 with hz | hz
  · rw [hz]
    refine mj_istore_n (x := nI 0 - 1) (L' := [some (.ref a), some (.ref fa), some (.ref ta), some (.int (nI 0 - 1)), none, none, none]) d_Pa_pack_14 (by decide) rfl rfl ?_
    refine mj_iload_n d_Pa_pack_15 rfl ?_
    refine mj_if_le (tgt := 56) d_Pa_pack_16 (by decide) (fun c_16 => ?_) (fun c_16 => absurd (by decide) c_16)
    refine mj_fg 3 (L' := [some (.ref a), some (.ref fa), some (.ref ta), none, none, none, none]) rfl ?_
    have ed : pa_ds b2 b = pa_srt b2 b := by unfold pa_ds; rw [hz]; rfl
    rw [← ed]
    exact hfin
  · rw [show nI (pa_srt b2 b).1 - 1 = nI ((pa_srt b2 b).1 - 1) by rw [show (1 : Int32) = nI 1 from rfl, pk_sub hz]]
    refine mj_istore_n (L' := [some (.ref a), some (.ref fa), some (.ref ta), some (.int (nI ((pa_srt b2 b).1 - 1))), none, none, none]) d_Pa_pack_14 (by decide) rfl rfl ?_
    refine lp_Pa_pack_d ((pa_srt b2 b).1 - 1) _ _ K1 (by omega) ?_
    rw [K.2.upup]
    exact hfin
