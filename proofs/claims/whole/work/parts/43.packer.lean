/-- every byte is one -/
def by_ok (b : by_B) : Prop := ∀ k, k < b.1 → ∃ j : Nat, j < 256 ∧ b.2.2 k = nI j
def by_h (b : by_B) (k : Nat) : Nat := (b.2.2 k).toNatClampNeg
theorem by_ok.at {b : by_B} (h : by_ok b) {k : Nat} (hk : k < b.1) (hb : b.1 < 2 ^ 31) : by_get b (nI k) = nI (by_h b k) ∧ by_h b k < 256 := by
  obtain ⟨j, hj, e⟩ := h k hk
  have e2 : by_h b k = j := by unfold by_h; rw [e, nI_clamp (by omega)]
  refine ⟨?_, by omega⟩
  unfold by_get
  rw [if_neg (nI_pos (by omega)), if_pos (nI_lt hk hb), nI_clamp (by omega), e, e2]
def pa_mk (v : Nat) : Nat := if v < 128 then v + 1 else 256 - v
def pa_tk (v : Nat) : Nat := if v < 128 then 2 else 1 + pa_mk v
theorem pa_mk_in {v : Nat} (h : v < 256) : 1 ≤ pa_mk v ∧ pa_mk v ≤ 128 := by unfold pa_mk; split <;> omega
theorem pa_tk_in {v : Nat} (h : v < 256) : 2 ≤ pa_tk v ∧ pa_tk v ≤ 129 := by unfold pa_tk; have := pa_mk_in h; split <;> omega
def pa_up1 (b2 : by_B) (pl v : Nat) : Nat → Nat → by_B → by_B
  | 0, _, b => b
  | j + 1, k, b => pa_up1 b2 pl v j (k + 1) (by_add 384 b (by_get b2 (nI (if v < 128 then pl + 1 else pl + 1 + k))))
theorem pa_up1_le (b2 : by_B) (pl v : Nat) : ∀ (j k : Nat) (b : by_B), b.1 ≤ 384 → (pa_up1 b2 pl v j k b).1 ≤ 384
  | 0, _, _, h => h
  | j + 1, k, b, h => pa_up1_le b2 pl v j (k + 1) _ (by_add_le _ h)
def pa_upE (b2 : by_B) (e w : Nat) : Nat → Nat → by_B → Option Nat × by_B
  | 0, _, b => (none, b)
  | n + 1, pl, b => if pl < e then (if e < pl + pa_tk (by_h b2 pl) ∨ w < b.1 + pa_mk (by_h b2 pl) then (some pl, b) else pa_upE b2 e w n (pl + pa_tk (by_h b2 pl)) (pa_up1 b2 pl (by_h b2 pl) (pa_mk (by_h b2 pl)) 0 b)) else (none, b)
theorem pa_upE_le (b2 : by_B) (e w : Nat) : ∀ (n pl : Nat) (b : by_B), b.1 ≤ 384 → (pa_upE b2 e w n pl b).2.1 ≤ 384
  | 0, _, _, h => h
  | n + 1, pl, b, h => by
    rw [pa_upE]
    split
    · split
      · exact h
      · exact pa_upE_le b2 e w n _ _ (pa_up1_le _ _ _ _ _ _ h)
    · exact h
set_option maxRecDepth 100000 in
set_option maxHeartbeats 4000000 in
theorem lp_Pa_unpack_k {Q : mj_E → mj_H → Prop} {a sa sc fa fc n2 ta st e w pl v m tk kc ks : Nat} {b2 : by_B} (hn1 : sa ≠ fa) (hn2 : sc ≠ fc) (hv : v < 256) (hm : m ≤ 128) (hpl : pl < 2 ^ 30) : ∀ (j k : Nat) (b : by_B) (h : mj_H), Pk h a sa sc b → By h fa fc n2 b2 → k + j = m → mj_W M_Pa_unpack Q (2, 45, none) kc ks 141 [some (.ref a), some (.ref fa), some (.int (nI st)), some (.int (nI e)), some (.int (nI w)), some (.ref ta), some (.int (nI pl)), some (.int (nI v)), some (.int (nI m)), some (.int (nI tk)), none] [] (by_up h sa sc 384 (pa_up1 b2 pl v j k b)) → mj_W M_Pa_unpack Q (2, 45, none) kc ks 95 [some (.ref a), some (.ref fa), some (.int (nI st)), some (.int (nI e)), some (.int (nI w)), some (.ref ta), some (.int (nI pl)), some (.int (nI v)), some (.int (nI m)), some (.int (nI tk)), some (.int (nI k))] [] h := by
  intro j
  induction j with
  | zero =>
    intro k b h K B2 hk kk
    obtain ⟨h0, h1, h2, h3, h4⟩ := id K
    obtain ⟨f1, f2, f3, f4⟩ := id B2
    refine mj_iload d_Pa_unpack_95 rfl ?_
    refine mj_iload d_Pa_unpack_97 rfl ?_
    refine mj_icmp_ge (tgt := 141) d_Pa_unpack_99 (by decide) (fun c_99 => ?_) (fun c_99 => ?_)
    · refine mj_fg 10 (L' := [some (.ref a), some (.ref fa), some (.int (nI st)), some (.int (nI e)), some (.int (nI w)), some (.ref ta), some (.int (nI pl)), some (.int (nI v)), some (.int (nI m)), some (.int (nI tk)), none]) rfl ?_
      rw [show pa_up1 b2 pl v 0 k b = b from rfl, K.2.idn] at kk
      exact kk
    · exact absurd (nI_le (by omega) (by omega)) c_99
  | succ j ih =>
    intro k b h K B2 hk kk
    obtain ⟨h0, h1, h2, h3, h4⟩ := id K
    obtain ⟨f1, f2, f3, f4⟩ := id B2
    refine mj_iload d_Pa_unpack_95 rfl ?_
    refine mj_iload d_Pa_unpack_97 rfl ?_
    refine mj_icmp_ge (tgt := 141) d_Pa_unpack_99 (by decide) (fun c_99 => ?_) (fun c_99 => ?_)
    · exact absurd c_99 (nI_ge (by omega) (by omega))
    · refine mj_aload_n d_Pa_unpack_102 rfl ?_
      refine mj_get ok_Pa (k := 0) (by decide) fl_Pa_14 d_Pa_unpack_103 h0 rfl ?_
      refine mj_aload_n d_Pa_unpack_106 rfl ?_
      refine mj_iload d_Pa_unpack_107 rfl ?_
      refine mj_sipush (v := 128) d_Pa_unpack_109 (by decide) ?_
      refine mj_icmp_ge (tgt := 122) d_Pa_unpack_112 (by decide) (fun c_112 => ?_) (fun c_112 => ?_)
      · refine mj_iload d_Pa_unpack_122 rfl ?_
        refine mj_iconst (v := 1) d_Pa_unpack_124 (by decide) ?_
        refine mj_iadd d_Pa_unpack_125 ?_
        refine mj_iload d_Pa_unpack_126 rfl ?_
        refine mj_iadd d_Pa_unpack_128 ?_
        rw [show (128 : Int32) = nI 128 from rfl] at c_112
        have g9 : ¬ v < 128 := fun q => nI_ge q (by decide) c_112
        rw [nI_1, nI_add]
        rw [show pl + 1 + k = (if v < 128 then pl + 1 else pl + 1 + k) from (if_neg g9).symm]
        refine mj_cV (S := [.ref sa]) (S1 := [.int (by_get b2 (nI (if v < 128 then pl + 1 else pl + 1 + k))), .ref sa]) (c_By_at B2 (nI (if v < 128 then pl + 1 else pl + 1 + k))) d_Pa_unpack_129 cw_By_at ml_Pa_28 im_By_at se_By_at rfl f1 (by decide) rfl (Nat.le_of_ble_eq_true rfl) rfl rfl ?_
        refine mj_cV (S := []) (S1 := []) (c_By_add K.2 _) d_Pa_unpack_132 cw_By_add ml_Pa_42 im_By_add se_By_add rfl h1 (by decide) rfl (Nat.le_of_ble_eq_true rfl) rfl rfl ?_
        obtain ⟨v1, e_v1⟩ : ∃ q_ : Int32, q_ = (nI k) + 1 := ⟨_, rfl⟩
        refine mj_iinc (x := (nI k)) (v := v1) (L' := [some (.ref a), some (.ref fa), some (.int (nI st)), some (.int (nI e)), some (.int (nI w)), some (.ref ta), some (.int (nI pl)), some (.int (nI v)), some (.int (nI m)), some (.int (nI tk)), some (.int v1)]) d_Pa_unpack_135 rfl (by rw [e_v1]; rfl) (by decide) rfl rfl ?_
        refine mj_goto (tgt := 95) d_Pa_unpack_138 (by decide) ?_
        rw [e_v1, nI_1]
        refine ih (k + 1) _ _ (K.up (by_add_le _ h3)) (K.2.oth B2 hn1 hn2) (by omega) ?_
        rw [K.2.upup]
        exact kk
      · refine mj_iload d_Pa_unpack_115 rfl ?_
        refine mj_iconst (v := 1) d_Pa_unpack_117 (by decide) ?_
        refine mj_iadd d_Pa_unpack_118 ?_
        refine mj_goto (tgt := 129) d_Pa_unpack_119 (by decide) ?_
        rw [show (128 : Int32) = nI 128 from rfl] at c_112
        have g9 : v < 128 := by
          rcases Nat.lt_or_ge (v) (128) with q | q
          · exact q
          · exact absurd (nI_le q (by omega)) c_112
        rw [nI_1]
        rw [show nI (pl + 1) = nI (if v < 128 then pl + 1 else pl + 1 + k) by rw [if_pos g9]]
        refine mj_cV (S := [.ref sa]) (S1 := [.int (by_get b2 (nI (if v < 128 then pl + 1 else pl + 1 + k))), .ref sa]) (c_By_at B2 (nI (if v < 128 then pl + 1 else pl + 1 + k))) d_Pa_unpack_129 cw_By_at ml_Pa_28 im_By_at se_By_at rfl f1 (by decide) rfl (Nat.le_of_ble_eq_true rfl) rfl rfl ?_
        refine mj_cV (S := []) (S1 := []) (c_By_add K.2 _) d_Pa_unpack_132 cw_By_add ml_Pa_42 im_By_add se_By_add rfl h1 (by decide) rfl (Nat.le_of_ble_eq_true rfl) rfl rfl ?_
        obtain ⟨v2, e_v2⟩ : ∃ q_ : Int32, q_ = (nI k) + 1 := ⟨_, rfl⟩
        refine mj_iinc (x := (nI k)) (v := v2) (L' := [some (.ref a), some (.ref fa), some (.int (nI st)), some (.int (nI e)), some (.int (nI w)), some (.ref ta), some (.int (nI pl)), some (.int (nI v)), some (.int (nI m)), some (.int (nI tk)), some (.int v2)]) d_Pa_unpack_135 rfl (by rw [e_v2]; rfl) (by decide) rfl rfl ?_
        refine mj_goto (tgt := 95) d_Pa_unpack_138 (by decide) ?_
        rw [e_v2, nI_1]
        refine ih (k + 1) _ _ (K.up (by_add_le _ h3)) (K.2.oth B2 hn1 hn2) (by omega) ?_
        rw [K.2.upup]
        exact kk
set_option maxRecDepth 100000 in
set_option maxHeartbeats 4000000 in
theorem lp_Pa_unpack_p {Q : mj_E → mj_H → Prop} {a sa sc fa fc n2 ta st e w kc ks : Nat} {b2 : by_B} (hn1 : sa ≠ fa) (hn2 : sc ≠ fc) (hok : by_ok b2) (he : e ≤ b2.1) (hb2 : b2.1 < 2 ^ 29) (hw : w < 2 ^ 29) : ∀ (n pl : Nat) (b : by_B) (h : mj_H), Pk h a sa sc b → By h fa fc n2 b2 → e ≤ pl + n → pl < 2 ^ 30 → ((pa_upE b2 e w n pl b).1 = none → mj_W M_Pa_unpack Q (2, 45, none) kc ks 151 [some (.ref a), some (.ref fa), some (.int (nI st)), some (.int (nI e)), some (.int (nI w)), some (.ref ta), none, none, none, none, none] [] (by_up h sa sc 384 (pa_upE b2 e w n pl b).2)) → (∀ q, (pa_upE b2 e w n pl b).1 = some q → Q (.inl (some (.int (nI q)))) (by_up h sa sc 384 (pa_upE b2 e w n pl b).2)) → mj_W M_Pa_unpack Q (2, 45, none) kc ks 10 [some (.ref a), some (.ref fa), some (.int (nI st)), some (.int (nI e)), some (.int (nI w)), some (.ref ta), some (.int (nI pl)), none, none, none, none] [] h := by
  intro n
  induction n with
  | zero =>
    intro pl b h K B2 hk hpl kk kf
    obtain ⟨h0, h1, h2, h3, h4⟩ := id K
    obtain ⟨f1, f2, f3, f4⟩ := id B2
    refine mj_iload d_Pa_unpack_10 rfl ?_
    refine mj_iload_n d_Pa_unpack_12 rfl ?_
    refine mj_icmp_ge (tgt := 151) d_Pa_unpack_13 (by decide) (fun c_13 => ?_) (fun c_13 => ?_)
    · refine mj_fg 6 (L' := [some (.ref a), some (.ref fa), some (.int (nI st)), some (.int (nI e)), some (.int (nI w)), some (.ref ta), none, none, none, none, none]) rfl ?_
      have k1 := kk rfl
      rw [show pa_upE b2 e w 0 pl b = (none, b) from rfl, K.2.idn] at k1
      exact k1
    · exact absurd (nI_le (by omega) (by omega)) c_13
  | succ n ih =>
    intro pl b h K B2 hk hpl kk kf
    obtain ⟨h0, h1, h2, h3, h4⟩ := id K
    obtain ⟨f1, f2, f3, f4⟩ := id B2
    refine mj_iload d_Pa_unpack_10 rfl ?_
    refine mj_iload_n d_Pa_unpack_12 rfl ?_
    refine mj_icmp_ge (tgt := 151) d_Pa_unpack_13 (by decide) (fun c_13 => ?_) (fun c_13 => ?_)
    · have hge : ¬ pl < e := fun q => nI_ge q (by omega) c_13
      have g : pa_upE b2 e w (n + 1) pl b = (none, b) := by rw [pa_upE, if_neg hge]
      refine mj_fg 6 (L' := [some (.ref a), some (.ref fa), some (.int (nI st)), some (.int (nI e)), some (.int (nI w)), some (.ref ta), none, none, none, none, none]) rfl ?_
      have k1 := kk (by rw [g])
      rw [g, K.2.idn] at k1
      exact k1
    · have hlt : pl < e := by
        rcases Nat.lt_or_ge (pl) (e) with q | q
        · exact q
        · exact absurd (nI_le q (by omega)) c_13
      obtain ⟨eh, hv⟩ := hok.at (k := pl) (by omega) (by omega)
      have hmk := pa_mk_in hv
      have htk := pa_tk_in hv
      refine mj_aload_n d_Pa_unpack_16 rfl ?_
      refine mj_iload d_Pa_unpack_17 rfl ?_
      refine mj_cV (S := []) (S1 := [.int (by_get b2 (nI pl))]) (c_By_at B2 (nI pl)) d_Pa_unpack_19 cw_By_at ml_Pa_28 im_By_at se_By_at rfl f1 (by decide) rfl (Nat.le_of_ble_eq_true rfl) rfl rfl ?_
      rw [eh]
      refine mj_istore (L' := [some (.ref a), some (.ref fa), some (.int (nI st)), some (.int (nI e)), some (.int (nI w)), some (.ref ta), some (.int (nI pl)), some (.int (nI (by_h b2 pl))), none, none, none]) d_Pa_unpack_22 (by decide) rfl rfl ?_
      refine mj_iload d_Pa_unpack_24 rfl ?_
      refine mj_sipush (v := 128) d_Pa_unpack_26 (by decide) ?_
      refine mj_icmp_ge (tgt := 39) d_Pa_unpack_29 (by decide) (fun c_29 => ?_) (fun c_29 => ?_)
      · refine mj_sipush (v := 256) d_Pa_unpack_39 (by decide) ?_
        refine mj_iload d_Pa_unpack_42 rfl ?_
        refine mj_isub d_Pa_unpack_44 ?_
        rw [show (128 : Int32) = nI 128 from rfl] at c_29
        have g9 : ¬ by_h b2 pl < 128 := fun q => nI_ge q (by decide) c_29
        rw [show (256 : Int32) - nI (by_h b2 pl) = nI (pa_mk (by_h b2 pl)) by rw [show (256 : Int32) = nI 256 from rfl, pk_sub (by omega)]; unfold pa_mk; rw [if_neg g9]]
        refine mj_istore (L' := [some (.ref a), some (.ref fa), some (.int (nI st)), some (.int (nI e)), some (.int (nI w)), some (.ref ta), some (.int (nI pl)), some (.int (nI (by_h b2 pl))), some (.int (nI (pa_mk (by_h b2 pl)))), none, none]) d_Pa_unpack_45 (by decide) rfl rfl ?_
        refine mj_iload d_Pa_unpack_47 rfl ?_
        refine mj_sipush (v := 128) d_Pa_unpack_49 (by decide) ?_
        refine mj_icmp_ge (tgt := 59) d_Pa_unpack_52 (by decide) (fun c_52 => ?_) (fun c_52 => ?_)
        · refine mj_iconst (v := 1) d_Pa_unpack_59 (by decide) ?_
          refine mj_iload d_Pa_unpack_60 rfl ?_
          refine mj_iadd d_Pa_unpack_62 ?_
          rw [show (128 : Int32) = nI 128 from rfl] at c_52
          rw [show 1 + nI (pa_mk (by_h b2 pl)) = nI (pa_tk (by_h b2 pl)) by rw [show (1 : Int32) = nI 1 from rfl, nI_add]; unfold pa_tk; rw [if_neg g9]]
          refine mj_istore (L' := [some (.ref a), some (.ref fa), some (.int (nI st)), some (.int (nI e)), some (.int (nI w)), some (.ref ta), some (.int (nI pl)), some (.int (nI (by_h b2 pl))), some (.int (nI (pa_mk (by_h b2 pl)))), some (.int (nI (pa_tk (by_h b2 pl)))), none]) d_Pa_unpack_63 (by decide) rfl rfl ?_
          refine mj_iload d_Pa_unpack_65 rfl ?_
          refine mj_iload d_Pa_unpack_67 rfl ?_
          refine mj_iadd d_Pa_unpack_69 ?_
          refine mj_iload_n d_Pa_unpack_70 rfl ?_
          refine mj_icmp_gt (tgt := 89) d_Pa_unpack_71 (by decide) (fun c_71 => ?_) (fun c_71 => ?_)
          · refine mj_iload d_Pa_unpack_89 rfl ?_
            rw [nI_add] at c_71
            have g8 : e < pl + pa_tk (by_h b2 pl) := by rw [nI_ltI (by omega) (by omega)] at c_71; exact c_71
            have g : pa_upE b2 e w (n + 1) pl b = (some pl, b) := by rw [pa_upE, if_pos hlt, if_pos (Or.inl g8)]
            rw [g, K.2.idn] at kf
            exact mj_iret rfl d_Pa_unpack_91 (kf pl rfl)
          · refine mj_aload_n d_Pa_unpack_74 rfl ?_
            refine mj_get ok_Pa (k := 0) (by decide) fl_Pa_14 d_Pa_unpack_75 h0 rfl ?_
            refine mj_get ok_By (k := 1) (by decide) fl_Pa_24 d_Pa_unpack_78 h1 rfl ?_
            refine mj_iload d_Pa_unpack_81 rfl ?_
            refine mj_iadd d_Pa_unpack_83 ?_
            refine mj_iload d_Pa_unpack_84 rfl ?_
            refine mj_icmp_le (tgt := 92) d_Pa_unpack_86 (by decide) (fun c_86 => ?_) (fun c_86 => ?_)
            · refine mj_iconst (v := 0) d_Pa_unpack_92 (by decide) ?_
              refine mj_istore (L' := [some (.ref a), some (.ref fa), some (.int (nI st)), some (.int (nI e)), some (.int (nI w)), some (.ref ta), some (.int (nI pl)), some (.int (nI (by_h b2 pl))), some (.int (nI (pa_mk (by_h b2 pl)))), some (.int (nI (pa_tk (by_h b2 pl)))), some (.int 0)]) d_Pa_unpack_93 (by decide) rfl rfl ?_
              rw [nI_add] at c_71 c_86
              have g8 : ¬ (e < pl + pa_tk (by_h b2 pl) ∨ w < b.1 + pa_mk (by_h b2 pl)) := by
                rw [nI_ltI (by omega) (by omega)] at c_71
                rw [nI_leI (by omega) (by omega)] at c_86
                omega
              rw [show pa_upE b2 e w (n + 1) pl b = pa_upE b2 e w n (pl + pa_tk (by_h b2 pl)) (pa_up1 b2 pl (by_h b2 pl) (pa_mk (by_h b2 pl)) 0 b) by rw [pa_upE, if_pos hlt, if_neg g8]] at kk kf
              refine lp_Pa_unpack_k hn1 hn2 hv hmk.2 (by omega) (pa_mk (by_h b2 pl)) 0 b h K B2 (by omega) ?_
              refine mj_iload d_Pa_unpack_141 rfl ?_
              refine mj_iload d_Pa_unpack_143 rfl ?_
              refine mj_iadd d_Pa_unpack_145 ?_
              refine mj_topi (fun v1 e_v1 => ?_)
              refine mj_istore (L' := [some (.ref a), some (.ref fa), some (.int (nI st)), some (.int (nI e)), some (.int (nI w)), some (.ref ta), some (.int v1), some (.int (nI (by_h b2 pl))), some (.int (nI (pa_mk (by_h b2 pl)))), some (.int (nI (pa_tk (by_h b2 pl)))), none]) d_Pa_unpack_146 (by decide) rfl rfl ?_
              refine mj_goto (tgt := 10) d_Pa_unpack_148 (by decide) ?_
              rw [nI_add] at e_v1
              rw [e_v1]
              refine mj_fg 7 (L' := [some (.ref a), some (.ref fa), some (.int (nI st)), some (.int (nI e)), some (.int (nI w)), some (.ref ta), some (.int (nI (pl + pa_tk (by_h b2 pl)))), none, some (.int (nI (pa_mk (by_h b2 pl)))), some (.int (nI (pa_tk (by_h b2 pl)))), none]) rfl ?_
              refine mj_fg 8 (L' := [some (.ref a), some (.ref fa), some (.int (nI st)), some (.int (nI e)), some (.int (nI w)), some (.ref ta), some (.int (nI (pl + pa_tk (by_h b2 pl)))), none, none, some (.int (nI (pa_tk (by_h b2 pl)))), none]) rfl ?_
              refine mj_fg 9 (L' := [some (.ref a), some (.ref fa), some (.int (nI st)), some (.int (nI e)), some (.int (nI w)), some (.ref ta), some (.int (nI (pl + pa_tk (by_h b2 pl)))), none, none, none, none]) rfl ?_
              refine ih _ _ _ (K.up (pa_up1_le _ _ _ _ _ _ h3)) (K.2.oth B2 hn1 hn2) (by omega) (by omega) ?_ ?_
              · intro g
                rw [K.2.upup]
                exact kk g
              · intro q g
                rw [K.2.upup]
                exact kf q g
            · refine mj_iload d_Pa_unpack_89 rfl ?_
              rw [nI_add] at c_71
              rw [nI_add] at c_86
              have g8 : w < b.1 + pa_mk (by_h b2 pl) := by rw [nI_leI (by omega) (by omega)] at c_86; omega
              have g : pa_upE b2 e w (n + 1) pl b = (some pl, b) := by rw [pa_upE, if_pos hlt, if_pos (Or.inr g8)]
              rw [g, K.2.idn] at kf
              exact mj_iret rfl d_Pa_unpack_91 (kf pl rfl)
        · refine mj_iconst (v := 2) d_Pa_unpack_55 (by decide) ?_
          refine mj_goto (tgt := 63) d_Pa_unpack_56 (by decide) ?_
          rw [show (128 : Int32) = nI 128 from rfl] at c_52
          exact absurd (nI_le (Nat.not_lt.mp g9) (by omega)) c_52
      · refine mj_iload d_Pa_unpack_32 rfl ?_
        refine mj_iconst (v := 1) d_Pa_unpack_34 (by decide) ?_
        refine mj_iadd d_Pa_unpack_35 ?_
        refine mj_goto (tgt := 45) d_Pa_unpack_36 (by decide) ?_
        rw [show (128 : Int32) = nI 128 from rfl] at c_29
        have g9 : by_h b2 pl < 128 := by
          rcases Nat.lt_or_ge (by_h b2 pl) (128) with q | q
          · exact q
          · exact absurd (nI_le q (by omega)) c_29
        rw [show nI (by_h b2 pl) + 1 = nI (pa_mk (by_h b2 pl)) by rw [nI_1]; unfold pa_mk; rw [if_pos g9]]
        refine mj_istore (L' := [some (.ref a), some (.ref fa), some (.int (nI st)), some (.int (nI e)), some (.int (nI w)), some (.ref ta), some (.int (nI pl)), some (.int (nI (by_h b2 pl))), some (.int (nI (pa_mk (by_h b2 pl)))), none, none]) d_Pa_unpack_45 (by decide) rfl rfl ?_
        refine mj_iload d_Pa_unpack_47 rfl ?_
        refine mj_sipush (v := 128) d_Pa_unpack_49 (by decide) ?_
        refine mj_icmp_ge (tgt := 59) d_Pa_unpack_52 (by decide) (fun c_52 => ?_) (fun c_52 => ?_)
        · refine mj_iconst (v := 1) d_Pa_unpack_59 (by decide) ?_
          refine mj_iload d_Pa_unpack_60 rfl ?_
          refine mj_iadd d_Pa_unpack_62 ?_
          rw [show (128 : Int32) = nI 128 from rfl] at c_52
          exact absurd c_52 (nI_ge g9 (by decide))
        · refine mj_iconst (v := 2) d_Pa_unpack_55 (by decide) ?_
          refine mj_goto (tgt := 63) d_Pa_unpack_56 (by decide) ?_
          rw [show (128 : Int32) = nI 128 from rfl] at c_52
          rw [show (2 : Int32) = nI (pa_tk (by_h b2 pl)) by unfold pa_tk; rw [if_pos g9]; rfl]
          refine mj_istore (L' := [some (.ref a), some (.ref fa), some (.int (nI st)), some (.int (nI e)), some (.int (nI w)), some (.ref ta), some (.int (nI pl)), some (.int (nI (by_h b2 pl))), some (.int (nI (pa_mk (by_h b2 pl)))), some (.int (nI (pa_tk (by_h b2 pl)))), none]) d_Pa_unpack_63 (by decide) rfl rfl ?_
          refine mj_iload d_Pa_unpack_65 rfl ?_
          refine mj_iload d_Pa_unpack_67 rfl ?_
          refine mj_iadd d_Pa_unpack_69 ?_
          refine mj_iload_n d_Pa_unpack_70 rfl ?_
          refine mj_icmp_gt (tgt := 89) d_Pa_unpack_71 (by decide) (fun c_71 => ?_) (fun c_71 => ?_)
          · refine mj_iload d_Pa_unpack_89 rfl ?_
            rw [nI_add] at c_71
            have g8 : e < pl + pa_tk (by_h b2 pl) := by rw [nI_ltI (by omega) (by omega)] at c_71; exact c_71
            have g : pa_upE b2 e w (n + 1) pl b = (some pl, b) := by rw [pa_upE, if_pos hlt, if_pos (Or.inl g8)]
            rw [g, K.2.idn] at kf
            exact mj_iret rfl d_Pa_unpack_91 (kf pl rfl)
          · refine mj_aload_n d_Pa_unpack_74 rfl ?_
            refine mj_get ok_Pa (k := 0) (by decide) fl_Pa_14 d_Pa_unpack_75 h0 rfl ?_
            refine mj_get ok_By (k := 1) (by decide) fl_Pa_24 d_Pa_unpack_78 h1 rfl ?_
            refine mj_iload d_Pa_unpack_81 rfl ?_
            refine mj_iadd d_Pa_unpack_83 ?_
            refine mj_iload d_Pa_unpack_84 rfl ?_
            refine mj_icmp_le (tgt := 92) d_Pa_unpack_86 (by decide) (fun c_86 => ?_) (fun c_86 => ?_)
            · refine mj_iconst (v := 0) d_Pa_unpack_92 (by decide) ?_
              refine mj_istore (L' := [some (.ref a), some (.ref fa), some (.int (nI st)), some (.int (nI e)), some (.int (nI w)), some (.ref ta), some (.int (nI pl)), some (.int (nI (by_h b2 pl))), some (.int (nI (pa_mk (by_h b2 pl)))), some (.int (nI (pa_tk (by_h b2 pl)))), some (.int 0)]) d_Pa_unpack_93 (by decide) rfl rfl ?_
              rw [nI_add] at c_71 c_86
              have g8 : ¬ (e < pl + pa_tk (by_h b2 pl) ∨ w < b.1 + pa_mk (by_h b2 pl)) := by
                rw [nI_ltI (by omega) (by omega)] at c_71
                rw [nI_leI (by omega) (by omega)] at c_86
                omega
              rw [show pa_upE b2 e w (n + 1) pl b = pa_upE b2 e w n (pl + pa_tk (by_h b2 pl)) (pa_up1 b2 pl (by_h b2 pl) (pa_mk (by_h b2 pl)) 0 b) by rw [pa_upE, if_pos hlt, if_neg g8]] at kk kf
              refine lp_Pa_unpack_k hn1 hn2 hv hmk.2 (by omega) (pa_mk (by_h b2 pl)) 0 b h K B2 (by omega) ?_
              refine mj_iload d_Pa_unpack_141 rfl ?_
              refine mj_iload d_Pa_unpack_143 rfl ?_
              refine mj_iadd d_Pa_unpack_145 ?_
              refine mj_topi (fun v2 e_v2 => ?_)
              refine mj_istore (L' := [some (.ref a), some (.ref fa), some (.int (nI st)), some (.int (nI e)), some (.int (nI w)), some (.ref ta), some (.int v2), some (.int (nI (by_h b2 pl))), some (.int (nI (pa_mk (by_h b2 pl)))), some (.int (nI (pa_tk (by_h b2 pl)))), none]) d_Pa_unpack_146 (by decide) rfl rfl ?_
              refine mj_goto (tgt := 10) d_Pa_unpack_148 (by decide) ?_
              rw [nI_add] at e_v2
              rw [e_v2]
              refine mj_fg 7 (L' := [some (.ref a), some (.ref fa), some (.int (nI st)), some (.int (nI e)), some (.int (nI w)), some (.ref ta), some (.int (nI (pl + pa_tk (by_h b2 pl)))), none, some (.int (nI (pa_mk (by_h b2 pl)))), some (.int (nI (pa_tk (by_h b2 pl)))), none]) rfl ?_
              refine mj_fg 8 (L' := [some (.ref a), some (.ref fa), some (.int (nI st)), some (.int (nI e)), some (.int (nI w)), some (.ref ta), some (.int (nI (pl + pa_tk (by_h b2 pl)))), none, none, some (.int (nI (pa_tk (by_h b2 pl)))), none]) rfl ?_
              refine mj_fg 9 (L' := [some (.ref a), some (.ref fa), some (.int (nI st)), some (.int (nI e)), some (.int (nI w)), some (.ref ta), some (.int (nI (pl + pa_tk (by_h b2 pl)))), none, none, none, none]) rfl ?_
              refine ih _ _ _ (K.up (pa_up1_le _ _ _ _ _ _ h3)) (K.2.oth B2 hn1 hn2) (by omega) (by omega) ?_ ?_
              · intro g
                rw [K.2.upup]
                exact kk g
              · intro q g
                rw [K.2.upup]
                exact kf q g
            · refine mj_iload d_Pa_unpack_89 rfl ?_
              rw [nI_add] at c_71
              rw [nI_add] at c_86
              have g8 : w < b.1 + pa_mk (by_h b2 pl) := by rw [nI_leI (by omega) (by omega)] at c_86; omega
              have g : pa_upE b2 e w (n + 1) pl b = (some pl, b) := by rw [pa_upE, if_pos hlt, if_pos (Or.inr g8)]
              rw [g, K.2.idn] at kf
              exact mj_iret rfl d_Pa_unpack_91 (kf pl rfl)
