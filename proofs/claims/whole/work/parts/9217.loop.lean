theorem la_le {N i : Nat} (hN : N ≤ 2560) (hi : i ≤ 2564) : ¬ nI N - 5 < nI i ↔ i + 5 ≤ N := by
  rw [Int32.lt_iff_toInt_lt, nI_toInt (by omega)]
  have e : (nI N - 5).toInt = (N : Int) - 5 := by
    rw [Int32.toInt_sub, nI_toInt (by omega)]
    rw [show (5 : Int32).toInt = 5 from rfl]
    rw [Int.bmod_def]
    split <;> omega
  rw [e]
  omega
set_option maxRecDepth 100000 in
set_option maxHeartbeats 4000000 in
theorem lp_law {N : Nat} {xs : Nat → Int32} (hN : N ≤ 2560) : ∀ (n i : Nat) (H : mj_H), LI H → N ≤ i + 5 * n + 4 → i ≤ N + 4 → mj_W M_La_law (fun r _ => r = .inl (some (.int 1))) (11, 450, some (N, xs)) n (6 * n) 28 (la_L (nI i)) [] H := by
  intro n
  induction n with
  | zero =>
    intro i H I h1 h2
    refine mj_iload d_La_law_28 rfl ?_
    refine mj_aload_nX d_La_law_30 rfl ?_
    refine mj_xlen (mj_hxS rfl) d_La_law_31 rfl ?_
    refine mj_iconst (v := 5) d_La_law_32 (by decide) ?_
    refine mj_isub d_La_law_33 ?_
    refine mj_icmp_gt (tgt := 1018) d_La_law_34 (by decide) (fun _ => ?_) (fun e => ?_)
    · refine mj_iconst (v := 1) d_La_law_1018 (by decide) ?_
      exact mj_zret rfl (by decide) d_La_law_1019 rfl
    · have := (la_le hN (by omega)).mp e
      omega
  | succ n ih =>
    intro i H I h1 h2
    refine mj_iload d_La_law_28 rfl ?_
    refine mj_aload_nX d_La_law_30 rfl ?_
    refine mj_xlen (mj_hxS rfl) d_La_law_31 rfl ?_
    refine mj_iconst (v := 5) d_La_law_32 (by decide) ?_
    refine mj_isub d_La_law_33 ?_
    refine mj_icmp_gt (tgt := 1018) d_La_law_34 (by decide) (fun _ => ?_) (fun e => ?_)
    · refine mj_iconst (v := 1) d_La_law_1018 (by decide) ?_
      exact mj_zret rfl (by decide) d_La_law_1019 rfl
    · have h5 := (la_le hN (by omega)).mp e
      have kk : ∀ H2, LI H2 → mj_W M_La_law (fun r _ => r = .inl (some (.int 1))) (11, 450, some (N, xs)) n (6 * n) 1012 (la_L (nI i)) [] H2 := by
        intro H2 I2
        refine mj_iinc (v := nI (i + 5)) d_La_law_1012 rfl (show nI i + Int32.ofInt 5 = nI (i + 5) from nI_add i 5) (by decide) rfl rfl ?_
        refine mj_goto (tgt := 28) d_La_law_1015 (by decide) ?_
        exact ih (i + 5) H2 I2 (by omega) (by omega)
      have q0 : vp_in (nI i) N := vp_in_nI (by omega) (by omega)
      have q1 : vp_in (nI i + 1) N := by rw [show nI i + 1 = nI (i + 1) from nI_add i 1]; exact vp_in_nI (by omega) (by omega)
      have q2 : vp_in (nI i + 2) N := by rw [show nI i + 2 = nI (i + 2) from nI_add i 2]; exact vp_in_nI (by omega) (by omega)
      have q3 : vp_in (nI i + 3) N := by rw [show nI i + 3 = nI (i + 3) from nI_add i 3]; exact vp_in_nI (by omega) (by omega)
      have q4 : vp_in (nI i + 4) N := by rw [show nI i + 4 = nI (i + 4) from nI_add i 4]; exact vp_in_nI (by omega) (by omega)
      show mj_W M_La_law (fun r _ => r = .inl (some (.int 1))) (11, 450, some (N, xs)) (n + 1) (6 * n + 6) 37 (la_L (nI i)) [] H
      refine mj_aload_nX d_La_law_37 rfl ?_
      refine mj_iload d_La_law_38 rfl ?_
      refine mj_xald (mj_hxS rfl) d_La_law_40 q0 ?_
      refine mj_bipush (v := 15) d_La_law_41 (by decide) ?_
      refine mj_iand d_La_law_43 ?_
      generalize xs (nI i).toNatClampNeg &&& 15 = x
      by_cases hx : x.toInt < 0 ∨ 12 < x.toInt
      · exact mj_tableOut (tgt := 1012) d_La_law_44 hx (by decide) (mj_more (kk H I))
      · obtain ⟨j, hj, rfl⟩ : ∃ j : Nat, j ≤ 12 ∧ x = nI j := by
          refine ⟨x.toInt.toNat, by omega, ?_⟩
          exact nI_to (by omega)
        have hj' : j = 0 ∨ j = 1 ∨ j = 2 ∨ j = 3 ∨ j = 4 ∨ j = 5 ∨ j = 6 ∨ j = 7 ∨ j = 8 ∨ j = 9 ∨ j = 10 ∨ j = 11 ∨ j = 12 := by omega
        rcases hj' with rfl | rfl | rfl | rfl | rfl | rfl | rfl | rfl | rfl | rfl | rfl | rfl | rfl
        · exact mj_tableIn (tgt := 112) d_La_law_44 (by decide) (by decide) (off := 68) rfl (by decide) (lm_begin q1 q2 q3 q4 I kk)
        · exact mj_tableIn (tgt := 180) d_La_law_44 (by decide) (by decide) (off := 136) rfl (by decide) (lm_channel q1 q2 q3 q4 I kk)
        · exact mj_tableIn (tgt := 260) d_La_law_44 (by decide) (by decide) (off := 216) rfl (by decide) (lm_set q1 q2 q3 q4 I kk)
        · exact mj_tableIn (tgt := 383) d_La_law_44 (by decide) (by decide) (off := 339) rfl (by decide) (lm_get q1 q2 q3 q4 I kk)
        · exact mj_tableIn (tgt := 484) d_La_law_44 (by decide) (by decide) (off := 440) rfl (by decide) (lm_bits q1 q2 q3 q4 I kk)
        · exact mj_tableIn (tgt := 564) d_La_law_44 (by decide) (by decide) (off := 520) rfl (by decide) (lm_encode q1 q2 q3 q4 I kk)
        · exact mj_tableIn (tgt := 620) d_La_law_44 (by decide) (by decide) (off := 576) rfl (by decide) (lm_decode q1 q2 q3 q4 I kk)
        · exact mj_tableIn (tgt := 664) d_La_law_44 (by decide) (by decide) (off := 620) rfl (by decide) (lm_where q1 q2 q3 q4 I kk)
        · exact mj_tableIn (tgt := 677) d_La_law_44 (by decide) (by decide) (off := 633) rfl (by decide) (lm_file q1 q2 q3 q4 I kk)
        · exact mj_tableIn (tgt := 733) d_La_law_44 (by decide) (by decide) (off := 689) rfl (by decide) (lm_patch q1 q2 q3 q4 I kk)
        · exact mj_tableIn (tgt := 801) d_La_law_44 (by decide) (by decide) (off := 757) rfl (by decide) (lm_cut q1 q2 q3 q4 I kk)
        · exact mj_tableIn (tgt := 857) d_La_law_44 (by decide) (by decide) (off := 813) rfl (by decide) (lm_count q1 q2 q3 q4 I kk)
        · exact mj_tableIn (tgt := 913) d_La_law_44 (by decide) (by decide) (off := 869) rfl (by decide) (lm_spread q1 q2 q3 q4 I kk)
