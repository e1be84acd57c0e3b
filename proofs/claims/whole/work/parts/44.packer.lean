/-- what unpack answers; the sorted row; the row that it fills -/
def pa_upk (n : Nat) (b2 : by_B) (st e w : Nat) (b t : by_B) : Int32 × by_B × by_B :=
  match pa_upE b2 e w e st (0, 0, b.2.2) with
  | (some q, b') => (nI q, b', t)
  | (none, b') => if b'.1 < w then (nI e, b', t) else (-2, pa_sum (b'.1 - 1) 1 b', pa_us n b' t)
theorem pa_upk_le (n : Nat) (b2 : by_B) (st e w : Nat) (b t : by_B) (ht : t.1 ≤ n) : (pa_upk n b2 st e w b t).2.1.1 ≤ 384 ∧ (pa_upk n b2 st e w b t).2.2.1 ≤ n := by
  have h1 := pa_upE_le b2 e w e st (0, 0, b.2.2) (Nat.zero_le _)
  unfold pa_upk
  split
  · rename_i q b' g
    rw [g] at h1
    exact ⟨h1, ht⟩
  · rename_i b' g
    rw [g] at h1
    split
    · exact ⟨h1, ht⟩
    · exact ⟨by rw [show (pa_sum (b'.1 - 1) 1 b').1 = b'.1 from pa_sum_le _ _ _]; exact h1, pa_us_le _ _ _⟩
set_option maxRecDepth 100000 in
set_option maxHeartbeats 4000000 in
theorem c_Pa_unpack {h : mj_H} {a sa sc fa fc n2 ta tc n : Nat} {b b2 t : by_B} (K : Pk h a sa sc b) (B2 : By h fa fc n2 b2) (B : By h ta tc n t) (hf1 : sa ≠ fa) (hf2 : sc ≠ fc) (hn1 : ta ≠ sa) (hn2 : tc ≠ sc) (hok : by_ok b2) {st e w : Nat} (he : e ≤ b2.1) (hb2 : b2.1 < 2 ^ 29) (hw : w < 2 ^ 29) (hw1 : 1 ≤ w) (hst : st < 2 ^ 30) : mj_Met M_Pa_unpack (2, 45, none) 0 0 [.ref a, .ref fa, .int (nI st), .int (nI e), .int (nI w), .ref ta] h (mj_q (some (.int (pa_upk n b2 st e w b t).1)) (by_up (by_up h sa sc 384 (pa_upk n b2 st e w b t).2.1) ta tc n (pa_upk n b2 st e w b t).2.2)) := by
  obtain ⟨h0, h1, h2, h3, h4⟩ := id K
  obtain ⟨f1, f2, f3, f4⟩ := id B2
  obtain ⟨g1, g2, g3, g4⟩ := id B
  refine mj_enter (r := 5) rfl rfl (by decide) rfl ?_
  show mj_W M_Pa_unpack _ _ _ _ 0 [some (.ref a), some (.ref fa), some (.int (nI st)), some (.int (nI e)), some (.int (nI w)), some (.ref ta), none, none, none, none, none] [] h
  refine mj_aload_n d_Pa_unpack_0 rfl ?_
  refine mj_get ok_Pa (k := 0) (by decide) fl_Pa_14 d_Pa_unpack_1 h0 rfl ?_
  refine mj_cV (S := []) (S1 := []) (c_By_clear K.2) d_Pa_unpack_4 cw_By_clear ml_Pa_36 im_By_clear se_By_clear rfl h1 (by decide) rfl (Nat.le_of_ble_eq_true rfl) rfl rfl ?_
  refine mj_iload_n d_Pa_unpack_7 rfl ?_
  refine mj_istore (L' := [some (.ref a), some (.ref fa), some (.int (nI st)), some (.int (nI e)), some (.int (nI w)), some (.ref ta), some (.int (nI st)), none, none, none, none]) d_Pa_unpack_8 (by decide) rfl rfl ?_
  have K1 : Pk (by_up h sa sc 384 (0, 0, b.2.2)) a sa sc (0, 0, b.2.2) := K.up (b' := (0, 0, b.2.2)) (Nat.zero_le _)
  have B3 := K.2.oth (b' := (0, 0, b.2.2)) B2 hf1 hf2
  have hle := pa_upE_le b2 e w e st (0, 0, b.2.2) (Nat.zero_le _)
  refine lp_Pa_unpack_p hf1 hf2 hok he hb2 hw e st _ _ K1 B3 (by omega) (by omega) (fun g => ?_) (fun q g => ?_)
  · rw [K.2.upup]
    obtain ⟨b1, e1⟩ : ∃ q_, q_ = (pa_upE b2 e w e st (0, 0, b.2.2)).2 := ⟨_, rfl⟩
    have ep : pa_upE b2 e w e st (0, 0, b.2.2) = (none, b1) := by rw [e1, ← g]
    rw [← e1] at hle ⊢
    have K2 := K.up hle
    have B4 := K.2.oth (b' := b1) B (Ne.symm hn1) (Ne.symm hn2)
    obtain ⟨i0, i1, i2, i3, i4⟩ := id K2
    refine mj_aload_n d_Pa_unpack_151 rfl ?_
    refine mj_get ok_Pa (k := 0) (by decide) fl_Pa_14 d_Pa_unpack_152 i0 rfl ?_
    refine mj_get ok_By (k := 1) (by decide) fl_Pa_24 d_Pa_unpack_155 i1 rfl ?_
    refine mj_iload d_Pa_unpack_158 rfl ?_
    refine mj_icmp_ge (tgt := 165) d_Pa_unpack_160 (by decide) (fun c_160 => ?_) (fun c_160 => ?_)
    · have hge : ¬ b1.1 < w := fun q => nI_ge q (by omega) c_160
      have er : pa_upk n b2 st e w b t = (-2, pa_sum (b1.1 - 1) 1 b1, pa_us n b1 t) := by unfold pa_upk; rw [ep]; exact if_neg hge
      refine mj_aload_n d_Pa_unpack_165 rfl ?_
      refine mj_aload d_Pa_unpack_166 rfl ?_
      refine mj_cV (S := []) (S1 := []) (c_Pa_unsort K2 B4 hn1 hn2 (by omega)) d_Pa_unpack_168 cw_Pa_unsort ml_Pa_52 im_Pa_unsort se_Pa_unsort rfl i0 (by decide) rfl (Nat.le_of_ble_eq_true rfl) rfl rfl ?_
      refine mj_bipush (v := (-2)) d_Pa_unpack_171 (by decide) ?_
      exact mj_iret rfl d_Pa_unpack_173 ⟨by rw [er], by rw [er, K.2.upup]⟩
    · have hlt : b1.1 < w := by
        rcases Nat.lt_or_ge (b1.1) (w) with q | q
        · exact q
        · exact absurd (nI_le q (by omega)) c_160
      have er : pa_upk n b2 st e w b t = (nI e, b1, t) := by unfold pa_upk; rw [ep]; exact if_pos hlt
      refine mj_iload_n d_Pa_unpack_163 rfl ?_
      exact mj_iret rfl d_Pa_unpack_164 ⟨by rw [er], by rw [er]; exact B4.idn.symm⟩
  · rw [K.2.upup]
    obtain ⟨b1, e1⟩ : ∃ q_, q_ = (pa_upE b2 e w e st (0, 0, b.2.2)).2 := ⟨_, rfl⟩
    have ep : pa_upE b2 e w e st (0, 0, b.2.2) = (some q, b1) := by rw [e1, ← g]
    have er : pa_upk n b2 st e w b t = (nI q, b1, t) := by unfold pa_upk; rw [ep]
    have B4 := K.2.oth (b' := b1) B (Ne.symm hn1) (Ne.symm hn2)
    rw [← e1]
    exact ⟨by rw [er], by rw [er]; exact B4.idn.symm⟩
