set_option maxRecDepth 100000 in
set_option maxHeartbeats 4000000 in
theorem lp_Wv_forward_x {Q : mj_E → mj_H → Prop} {a c nx ny p y kc ks : Nat} (hx : nx ≤ 8) (hy : y + p < ny) (hn : ny ≤ 4) (hp : 1 ≤ p) : ∀ (n x : Nat) (f : Nat → Int32) (h : mj_H), Wv h a c f → nx ≤ x + n → x ≤ 16 → mj_W M_Wv_forward Q (1, 25, none) kc ks 105 [some (.ref a), some (.int (nI nx)), some (.int (nI ny)), some (.int (nI p)), some (.int (nI y)), none, none, none] [] (wv_up h c (wv_x wv_blk nx p y n x f)) → mj_W M_Wv_forward Q (1, 25, none) kc ks 27 [some (.ref a), some (.int (nI nx)), some (.int (nI ny)), some (.int (nI p)), some (.int (nI y)), some (.int (nI x)), none, none] [] h := by
  intro n
  induction n with
  | zero =>
    intro x f h B hxn hx16 kk
    obtain ⟨h1, h2⟩ := id B
    refine mj_iload d_Wv_forward_27 rfl ?_
    refine mj_iload_n d_Wv_forward_29 rfl ?_
    refine mj_iadd d_Wv_forward_30 ?_
    refine mj_iload_n d_Wv_forward_31 rfl ?_
    refine mj_icmp_ge (tgt := 105) d_Wv_forward_32 (by decide) (fun c_32 => ?_) (fun c_32 => ?_)
    · refine mj_fg 5 (L' := [some (.ref a), some (.int (nI nx)), some (.int (nI ny)), some (.int (nI p)), some (.int (nI y)), none, none, none]) rfl ?_
      rw [show wv_x wv_blk nx p y 0 x f = f from rfl, B.idn] at kk
      exact kk
    · rw [nI_add] at c_32
      exact absurd (nI_le (by omega) (by omega)) c_32
  | succ n ih =>
    intro x f h B hxn hx16 kk
    obtain ⟨h1, h2⟩ := id B
    refine mj_iload d_Wv_forward_27 rfl ?_
    refine mj_iload_n d_Wv_forward_29 rfl ?_
    refine mj_iadd d_Wv_forward_30 ?_
    refine mj_iload_n d_Wv_forward_31 rfl ?_
    refine mj_icmp_ge (tgt := 105) d_Wv_forward_32 (by decide) (fun c_32 => ?_) (fun c_32 => ?_)
    · rw [nI_add] at c_32
      have hge : ¬ x + p < nx := fun q => nI_ge q (by omega) c_32
      refine mj_fg 5 (L' := [some (.ref a), some (.int (nI nx)), some (.int (nI ny)), some (.int (nI p)), some (.int (nI y)), none, none, none]) rfl ?_
      rw [show wv_x wv_blk nx p y (n + 1) x f = f by rw [wv_x, if_neg hge], B.idn] at kk
      exact kk
    · rw [nI_add] at c_32
      have hlt : x + p < nx := by
        rcases Nat.lt_or_ge (x + p) nx with q | q
        · exact q
        · exact absurd (nI_le q (by omega)) c_32
      have eq0 : nI y * 8 + nI x = nI (8 * y + x) := wv_ix x y
      have eq1 : nI (8 * y + x) + nI p * 8 = nI (8 * y + x + 8 * p) := by rw [show (8 : Int32) = nI 8 from rfl, pk_mul, nI_add, Nat.mul_comm p]
      refine mj_iload d_Wv_forward_35 rfl ?_
      refine mj_bipush (v := 8) d_Wv_forward_37 (by decide) ?_
      refine mj_imul d_Wv_forward_39 ?_
      refine mj_iload d_Wv_forward_40 rfl ?_
      refine mj_iadd d_Wv_forward_42 ?_
      rw [eq0]
      refine mj_istore (L' := [some (.ref a), some (.int (nI nx)), some (.int (nI ny)), some (.int (nI p)), some (.int (nI y)), some (.int (nI x)), some (.int (nI (8 * y + x))), none]) d_Wv_forward_43 (by decide) rfl rfl ?_
      refine mj_iload d_Wv_forward_45 rfl ?_
      refine mj_iload_n d_Wv_forward_47 rfl ?_
      refine mj_bipush (v := 8) d_Wv_forward_48 (by decide) ?_
      refine mj_imul d_Wv_forward_50 ?_
      refine mj_iadd d_Wv_forward_51 ?_
      rw [eq1]
      refine mj_istore (L' := [some (.ref a), some (.int (nI nx)), some (.int (nI ny)), some (.int (nI p)), some (.int (nI y)), some (.int (nI x)), some (.int (nI (8 * y + x))), some (.int (nI (8 * y + x + 8 * p)))]) d_Wv_forward_52 (by decide) rfl rfl ?_
      refine mj_aload_n d_Wv_forward_54 rfl ?_
      refine mj_iload d_Wv_forward_55 rfl ?_
      refine mj_iload d_Wv_forward_57 rfl ?_
      refine mj_iload_n d_Wv_forward_59 rfl ?_
      refine mj_iadd d_Wv_forward_60 ?_
      rw [show nI (8 * y + x) + nI p = nI (8 * y + x + p) from nI_add _ _]
      refine mj_cV (S := []) (S1 := []) (c_Wv_mix (h := h) (f := f) B (u := 8 * y + x) (v := 8 * y + x + p) (by omega) (by omega)) d_Wv_forward_61 cw_Wv_mix ml_Wv_22 im_Wv_mix se_Wv_mix rfl h1 (by decide) rfl (Nat.le_of_ble_eq_true rfl) rfl rfl ?_
      refine mj_aload_n d_Wv_forward_64 rfl ?_
      refine mj_iload d_Wv_forward_65 rfl ?_
      refine mj_iload d_Wv_forward_67 rfl ?_
      refine mj_iload_n d_Wv_forward_69 rfl ?_
      refine mj_iadd d_Wv_forward_70 ?_
      rw [show nI (8 * y + x + 8 * p) + nI p = nI (8 * y + x + 8 * p + p) from nI_add _ _]
      refine mj_cV (S := []) (S1 := []) (c_Wv_mix (h := (wv_up h c (wv_mix f (8 * y + x) (8 * y + x + p)))) (f := (wv_mix f (8 * y + x) (8 * y + x + p))) (B.up) (u := 8 * y + x + 8 * p) (v := 8 * y + x + 8 * p + p) (by omega) (by omega)) d_Wv_forward_71 cw_Wv_mix ml_Wv_22 im_Wv_mix se_Wv_mix rfl B.up.1 (by decide) rfl (Nat.le_of_ble_eq_true rfl) rfl rfl ?_
      rw [wv_upup]
      refine mj_aload_n d_Wv_forward_74 rfl ?_
      refine mj_iload d_Wv_forward_75 rfl ?_
      refine mj_iload d_Wv_forward_77 rfl ?_
      refine mj_cV (S := []) (S1 := []) (c_Wv_mix (h := (wv_up h c (wv_mix (wv_mix f (8 * y + x) (8 * y + x + p)) (8 * y + x + 8 * p) (8 * y + x + 8 * p + p)))) (f := (wv_mix (wv_mix f (8 * y + x) (8 * y + x + p)) (8 * y + x + 8 * p) (8 * y + x + 8 * p + p))) (B.up) (u := 8 * y + x) (v := 8 * y + x + 8 * p) (by omega) (by omega)) d_Wv_forward_79 cw_Wv_mix ml_Wv_22 im_Wv_mix se_Wv_mix rfl B.up.1 (by decide) rfl (Nat.le_of_ble_eq_true rfl) rfl rfl ?_
      rw [wv_upup]
      refine mj_aload_n d_Wv_forward_82 rfl ?_
      refine mj_iload d_Wv_forward_83 rfl ?_
      refine mj_iload_n d_Wv_forward_85 rfl ?_
      refine mj_iadd d_Wv_forward_86 ?_
      refine mj_iload d_Wv_forward_87 rfl ?_
      refine mj_iload_n d_Wv_forward_89 rfl ?_
      refine mj_iadd d_Wv_forward_90 ?_
      rw [show nI (8 * y + x + 8 * p) + nI p = nI (8 * y + x + 8 * p + p) from nI_add _ _]
      rw [show nI (8 * y + x) + nI p = nI (8 * y + x + p) from nI_add _ _]
      refine mj_cV (S := []) (S1 := []) (c_Wv_mix (h := (wv_up h c (wv_mix (wv_mix (wv_mix f (8 * y + x) (8 * y + x + p)) (8 * y + x + 8 * p) (8 * y + x + 8 * p + p)) (8 * y + x) (8 * y + x + 8 * p)))) (f := (wv_mix (wv_mix (wv_mix f (8 * y + x) (8 * y + x + p)) (8 * y + x + 8 * p) (8 * y + x + 8 * p + p)) (8 * y + x) (8 * y + x + 8 * p))) (B.up) (u := 8 * y + x + p) (v := 8 * y + x + 8 * p + p) (by omega) (by omega)) d_Wv_forward_91 cw_Wv_mix ml_Wv_22 im_Wv_mix se_Wv_mix rfl B.up.1 (by decide) rfl (Nat.le_of_ble_eq_true rfl) rfl rfl ?_
      rw [wv_upup]
      refine mj_iload d_Wv_forward_94 rfl ?_
      refine mj_iconst (v := 2) d_Wv_forward_96 (by decide) ?_
      refine mj_iload_n d_Wv_forward_97 rfl ?_
      refine mj_imul d_Wv_forward_98 ?_
      refine mj_iadd d_Wv_forward_99 ?_
      refine mj_topi (fun v1 e_v1 => ?_)
      refine mj_istore (L' := [some (.ref a), some (.int (nI nx)), some (.int (nI ny)), some (.int (nI p)), some (.int (nI y)), some (.int v1), some (.int (nI (8 * y + x))), some (.int (nI (8 * y + x + 8 * p)))]) d_Wv_forward_100 (by decide) rfl rfl ?_
      refine mj_goto (tgt := 27) d_Wv_forward_102 (by decide) ?_
      refine mj_fg 6 (L' := [some (.ref a), some (.int (nI nx)), some (.int (nI ny)), some (.int (nI p)), some (.int (nI y)), some (.int v1), none, some (.int (nI (8 * y + x + 8 * p)))]) rfl ?_
      refine mj_fg 7 (L' := [some (.ref a), some (.int (nI nx)), some (.int (nI ny)), some (.int (nI p)), some (.int (nI y)), some (.int v1), none, none]) rfl ?_
      rw [e_v1, show nI x + 2 * nI p = nI (x + 2 * p) by rw [show (2 : Int32) = nI 2 from rfl, pk_mul, nI_add]]
      refine ih (x + 2 * p) _ _ (B.up) (by omega) (by omega) ?_
      rw [wv_upup]
      rw [show wv_x wv_blk nx p y (n + 1) x f = wv_x wv_blk nx p y n (x + 2 * p) (wv_blk f (8 * y + x) p) by rw [wv_x, if_pos hlt]] at kk
      exact kk
set_option maxRecDepth 100000 in
set_option maxHeartbeats 4000000 in
theorem lp_Wv_forward_y {Q : mj_E → mj_H → Prop} {a c nx ny p kc ks : Nat} (hx : nx ≤ 8) (hn : ny ≤ 4) (hp : 1 ≤ p) (hp4 : p ≤ 4) : ∀ (n y : Nat) (f : Nat → Int32) (h : mj_H), Wv h a c f → ny ≤ y + n → y ≤ 16 → mj_W M_Wv_forward Q (1, 25, none) kc ks 116 [some (.ref a), some (.int (nI nx)), some (.int (nI ny)), some (.int (nI p)), none, none, none, none] [] (wv_up h c (wv_y wv_blk nx ny p n y f)) → mj_W M_Wv_forward Q (1, 25, none) kc ks 16 [some (.ref a), some (.int (nI nx)), some (.int (nI ny)), some (.int (nI p)), some (.int (nI y)), none, none, none] [] h := by
  intro n
  induction n with
  | zero =>
    intro y f h B hyn hy16 kk
    obtain ⟨h1, h2⟩ := id B
    refine mj_iload d_Wv_forward_16 rfl ?_
    refine mj_iload_n d_Wv_forward_18 rfl ?_
    refine mj_iadd d_Wv_forward_19 ?_
    refine mj_iload_n d_Wv_forward_20 rfl ?_
    refine mj_icmp_ge (tgt := 116) d_Wv_forward_21 (by decide) (fun c_21 => ?_) (fun c_21 => ?_)
    · refine mj_fg 4 (L' := [some (.ref a), some (.int (nI nx)), some (.int (nI ny)), some (.int (nI p)), none, none, none, none]) rfl ?_
      rw [show wv_y wv_blk nx ny p 0 y f = f from rfl, B.idn] at kk
      exact kk
    · rw [nI_add] at c_21
      exact absurd (nI_le (by omega) (by omega)) c_21
  | succ n ih =>
    intro y f h B hyn hy16 kk
    obtain ⟨h1, h2⟩ := id B
    refine mj_iload d_Wv_forward_16 rfl ?_
    refine mj_iload_n d_Wv_forward_18 rfl ?_
    refine mj_iadd d_Wv_forward_19 ?_
    refine mj_iload_n d_Wv_forward_20 rfl ?_
    refine mj_icmp_ge (tgt := 116) d_Wv_forward_21 (by decide) (fun c_21 => ?_) (fun c_21 => ?_)
    · rw [nI_add] at c_21
      have hge : ¬ y + p < ny := fun q => nI_ge q (by omega) c_21
      refine mj_fg 4 (L' := [some (.ref a), some (.int (nI nx)), some (.int (nI ny)), some (.int (nI p)), none, none, none, none]) rfl ?_
      rw [show wv_y wv_blk nx ny p (n + 1) y f = f by rw [wv_y, if_neg hge], B.idn] at kk
      exact kk
    · rw [nI_add] at c_21
      have hlt : y + p < ny := by
        rcases Nat.lt_or_ge (y + p) ny with q | q
        · exact q
        · exact absurd (nI_le q (by omega)) c_21
      refine mj_iconst (v := 0) d_Wv_forward_24 (by decide) ?_
      refine mj_istore (L' := [some (.ref a), some (.int (nI nx)), some (.int (nI ny)), some (.int (nI p)), some (.int (nI y)), some (.int 0), none, none]) d_Wv_forward_25 (by decide) rfl rfl ?_
      refine lp_Wv_forward_x hx hlt hn hp nx 0 f h B (by omega) (by omega) ?_
      refine mj_iload d_Wv_forward_105 rfl ?_
      refine mj_iconst (v := 2) d_Wv_forward_107 (by decide) ?_
      refine mj_iload_n d_Wv_forward_108 rfl ?_
      refine mj_imul d_Wv_forward_109 ?_
      refine mj_iadd d_Wv_forward_110 ?_
      refine mj_topi (fun v1 e_v1 => ?_)
      refine mj_istore (L' := [some (.ref a), some (.int (nI nx)), some (.int (nI ny)), some (.int (nI p)), some (.int v1), none, none, none]) d_Wv_forward_111 (by decide) rfl rfl ?_
      refine mj_goto (tgt := 16) d_Wv_forward_113 (by decide) ?_
      rw [e_v1, show nI y + 2 * nI p = nI (y + 2 * p) by rw [show (2 : Int32) = nI 2 from rfl, pk_mul, nI_add]]
      refine ih (y + 2 * p) _ _ (B.up) (by omega) (by omega) ?_
      rw [wv_upup]
      rw [show wv_y wv_blk nx ny p (n + 1) y f = wv_y wv_blk nx ny p n (y + 2 * p) (wv_x wv_blk nx p y nx 0 f) by rw [wv_y, if_pos hlt]] at kk
      exact kk
set_option maxRecDepth 100000 in
set_option maxHeartbeats 4000000 in
theorem lp_Wv_backward_x {Q : mj_E → mj_H → Prop} {a c nx ny p y kc ks : Nat} (hx : nx ≤ 8) (hy : y + p < ny) (hn : ny ≤ 4) (hp : 1 ≤ p) : ∀ (n x : Nat) (f : Nat → Int32) (h : mj_H), Wv h a c f → nx ≤ x + n → x ≤ 16 → mj_W M_Wv_backward Q (1, 24, none) kc ks 122 [some (.ref a), some (.int (nI nx)), some (.int (nI ny)), some (.int (nI p)), some (.int 1), some (.int (nI y)), none, none, none] [] (wv_up h c (wv_x wv_ubk nx p y n x f)) → mj_W M_Wv_backward Q (1, 24, none) kc ks 44 [some (.ref a), some (.int (nI nx)), some (.int (nI ny)), some (.int (nI p)), some (.int 1), some (.int (nI y)), some (.int (nI x)), none, none] [] h := by
  intro n
  induction n with
  | zero =>
    intro x f h B hxn hx16 kk
    obtain ⟨h1, h2⟩ := id B
    refine mj_iload d_Wv_backward_44 rfl ?_
    refine mj_iload_n d_Wv_backward_46 rfl ?_
    refine mj_iadd d_Wv_backward_47 ?_
    refine mj_iload_n d_Wv_backward_48 rfl ?_
    refine mj_icmp_ge (tgt := 122) d_Wv_backward_49 (by decide) (fun c_49 => ?_) (fun c_49 => ?_)
    · refine mj_fg 6 (L' := [some (.ref a), some (.int (nI nx)), some (.int (nI ny)), some (.int (nI p)), some (.int 1), some (.int (nI y)), none, none, none]) rfl ?_
      rw [show wv_x wv_ubk nx p y 0 x f = f from rfl, B.idn] at kk
      exact kk
    · rw [nI_add] at c_49
      exact absurd (nI_le (by omega) (by omega)) c_49
  | succ n ih =>
    intro x f h B hxn hx16 kk
    obtain ⟨h1, h2⟩ := id B
    refine mj_iload d_Wv_backward_44 rfl ?_
    refine mj_iload_n d_Wv_backward_46 rfl ?_
    refine mj_iadd d_Wv_backward_47 ?_
    refine mj_iload_n d_Wv_backward_48 rfl ?_
    refine mj_icmp_ge (tgt := 122) d_Wv_backward_49 (by decide) (fun c_49 => ?_) (fun c_49 => ?_)
    · rw [nI_add] at c_49
      have hge : ¬ x + p < nx := fun q => nI_ge q (by omega) c_49
      refine mj_fg 6 (L' := [some (.ref a), some (.int (nI nx)), some (.int (nI ny)), some (.int (nI p)), some (.int 1), some (.int (nI y)), none, none, none]) rfl ?_
      rw [show wv_x wv_ubk nx p y (n + 1) x f = f by rw [wv_x, if_neg hge], B.idn] at kk
      exact kk
    · rw [nI_add] at c_49
      have hlt : x + p < nx := by
        rcases Nat.lt_or_ge (x + p) nx with q | q
        · exact q
        · exact absurd (nI_le q (by omega)) c_49
      have eq0 : nI y * 8 + nI x = nI (8 * y + x) := wv_ix x y
      have eq1 : nI (8 * y + x) + nI p * 8 = nI (8 * y + x + 8 * p) := by rw [show (8 : Int32) = nI 8 from rfl, pk_mul, nI_add, Nat.mul_comm p]
      refine mj_iload d_Wv_backward_52 rfl ?_
      refine mj_bipush (v := 8) d_Wv_backward_54 (by decide) ?_
      refine mj_imul d_Wv_backward_56 ?_
      refine mj_iload d_Wv_backward_57 rfl ?_
      refine mj_iadd d_Wv_backward_59 ?_
      rw [eq0]
      refine mj_istore (L' := [some (.ref a), some (.int (nI nx)), some (.int (nI ny)), some (.int (nI p)), some (.int 1), some (.int (nI y)), some (.int (nI x)), some (.int (nI (8 * y + x))), none]) d_Wv_backward_60 (by decide) rfl rfl ?_
      refine mj_iload d_Wv_backward_62 rfl ?_
      refine mj_iload_n d_Wv_backward_64 rfl ?_
      refine mj_bipush (v := 8) d_Wv_backward_65 (by decide) ?_
      refine mj_imul d_Wv_backward_67 ?_
      refine mj_iadd d_Wv_backward_68 ?_
      rw [eq1]
      refine mj_istore (L' := [some (.ref a), some (.int (nI nx)), some (.int (nI ny)), some (.int (nI p)), some (.int 1), some (.int (nI y)), some (.int (nI x)), some (.int (nI (8 * y + x))), some (.int (nI (8 * y + x + 8 * p)))]) d_Wv_backward_69 (by decide) rfl rfl ?_
      refine mj_aload_n d_Wv_backward_71 rfl ?_
      refine mj_iload d_Wv_backward_72 rfl ?_
      refine mj_iload d_Wv_backward_74 rfl ?_
      refine mj_cV (S := []) (S1 := []) (c_Wv_unmix (h := h) (f := f) B (u := 8 * y + x) (v := 8 * y + x + 8 * p) (by omega) (by omega)) d_Wv_backward_76 cw_Wv_unmix ml_Wv_26 im_Wv_unmix se_Wv_unmix rfl h1 (by decide) rfl (Nat.le_of_ble_eq_true rfl) rfl rfl ?_
      refine mj_aload_n d_Wv_backward_79 rfl ?_
      refine mj_iload d_Wv_backward_80 rfl ?_
      refine mj_iload_n d_Wv_backward_82 rfl ?_
      refine mj_iadd d_Wv_backward_83 ?_
      refine mj_iload d_Wv_backward_84 rfl ?_
      refine mj_iload_n d_Wv_backward_86 rfl ?_
      refine mj_iadd d_Wv_backward_87 ?_
      rw [show nI (8 * y + x + 8 * p) + nI p = nI (8 * y + x + 8 * p + p) from nI_add _ _]
      rw [show nI (8 * y + x) + nI p = nI (8 * y + x + p) from nI_add _ _]
      refine mj_cV (S := []) (S1 := []) (c_Wv_unmix (h := (wv_up h c (wv_unm f (8 * y + x) (8 * y + x + 8 * p)))) (f := (wv_unm f (8 * y + x) (8 * y + x + 8 * p))) (B.up) (u := 8 * y + x + p) (v := 8 * y + x + 8 * p + p) (by omega) (by omega)) d_Wv_backward_88 cw_Wv_unmix ml_Wv_26 im_Wv_unmix se_Wv_unmix rfl B.up.1 (by decide) rfl (Nat.le_of_ble_eq_true rfl) rfl rfl ?_
      rw [wv_upup]
      refine mj_aload_n d_Wv_backward_91 rfl ?_
      refine mj_iload d_Wv_backward_92 rfl ?_
      refine mj_iload d_Wv_backward_94 rfl ?_
      refine mj_iload_n d_Wv_backward_96 rfl ?_
      refine mj_iadd d_Wv_backward_97 ?_
      rw [show nI (8 * y + x) + nI p = nI (8 * y + x + p) from nI_add _ _]
      refine mj_cV (S := []) (S1 := []) (c_Wv_unmix (h := (wv_up h c (wv_unm (wv_unm f (8 * y + x) (8 * y + x + 8 * p)) (8 * y + x + p) (8 * y + x + 8 * p + p)))) (f := (wv_unm (wv_unm f (8 * y + x) (8 * y + x + 8 * p)) (8 * y + x + p) (8 * y + x + 8 * p + p))) (B.up) (u := 8 * y + x) (v := 8 * y + x + p) (by omega) (by omega)) d_Wv_backward_98 cw_Wv_unmix ml_Wv_26 im_Wv_unmix se_Wv_unmix rfl B.up.1 (by decide) rfl (Nat.le_of_ble_eq_true rfl) rfl rfl ?_
      rw [wv_upup]
      refine mj_aload_n d_Wv_backward_101 rfl ?_
      refine mj_iload d_Wv_backward_102 rfl ?_
      refine mj_iload d_Wv_backward_104 rfl ?_
      refine mj_iload_n d_Wv_backward_106 rfl ?_
      refine mj_iadd d_Wv_backward_107 ?_
      rw [show nI (8 * y + x + 8 * p) + nI p = nI (8 * y + x + 8 * p + p) from nI_add _ _]
      refine mj_cV (S := []) (S1 := []) (c_Wv_unmix (h := (wv_up h c (wv_unm (wv_unm (wv_unm f (8 * y + x) (8 * y + x + 8 * p)) (8 * y + x + p) (8 * y + x + 8 * p + p)) (8 * y + x) (8 * y + x + p)))) (f := (wv_unm (wv_unm (wv_unm f (8 * y + x) (8 * y + x + 8 * p)) (8 * y + x + p) (8 * y + x + 8 * p + p)) (8 * y + x) (8 * y + x + p))) (B.up) (u := 8 * y + x + 8 * p) (v := 8 * y + x + 8 * p + p) (by omega) (by omega)) d_Wv_backward_108 cw_Wv_unmix ml_Wv_26 im_Wv_unmix se_Wv_unmix rfl B.up.1 (by decide) rfl (Nat.le_of_ble_eq_true rfl) rfl rfl ?_
      rw [wv_upup]
      refine mj_iload d_Wv_backward_111 rfl ?_
      refine mj_iconst (v := 2) d_Wv_backward_113 (by decide) ?_
      refine mj_iload_n d_Wv_backward_114 rfl ?_
      refine mj_imul d_Wv_backward_115 ?_
      refine mj_iadd d_Wv_backward_116 ?_
      refine mj_topi (fun v1 e_v1 => ?_)
      refine mj_istore (L' := [some (.ref a), some (.int (nI nx)), some (.int (nI ny)), some (.int (nI p)), some (.int 1), some (.int (nI y)), some (.int v1), some (.int (nI (8 * y + x))), some (.int (nI (8 * y + x + 8 * p)))]) d_Wv_backward_117 (by decide) rfl rfl ?_
      refine mj_goto (tgt := 44) d_Wv_backward_119 (by decide) ?_
      refine mj_fg 7 (L' := [some (.ref a), some (.int (nI nx)), some (.int (nI ny)), some (.int (nI p)), some (.int 1), some (.int (nI y)), some (.int v1), none, some (.int (nI (8 * y + x + 8 * p)))]) rfl ?_
      refine mj_fg 8 (L' := [some (.ref a), some (.int (nI nx)), some (.int (nI ny)), some (.int (nI p)), some (.int 1), some (.int (nI y)), some (.int v1), none, none]) rfl ?_
      rw [e_v1, show nI x + 2 * nI p = nI (x + 2 * p) by rw [show (2 : Int32) = nI 2 from rfl, pk_mul, nI_add]]
      refine ih (x + 2 * p) _ _ (B.up) (by omega) (by omega) ?_
      rw [wv_upup]
      rw [show wv_x wv_ubk nx p y (n + 1) x f = wv_x wv_ubk nx p y n (x + 2 * p) (wv_ubk f (8 * y + x) p) by rw [wv_x, if_pos hlt]] at kk
      exact kk
set_option maxRecDepth 100000 in
set_option maxHeartbeats 4000000 in
theorem lp_Wv_backward_y {Q : mj_E → mj_H → Prop} {a c nx ny p kc ks : Nat} (hx : nx ≤ 8) (hn : ny ≤ 4) (hp : 1 ≤ p) (hp4 : p ≤ 4) : ∀ (n y : Nat) (f : Nat → Int32) (h : mj_H), Wv h a c f → ny ≤ y + n → y ≤ 16 → mj_W M_Wv_backward Q (1, 24, none) kc ks 133 [some (.ref a), some (.int (nI nx)), some (.int (nI ny)), some (.int (nI p)), some (.int 1), none, none, none, none] [] (wv_up h c (wv_y wv_ubk nx ny p n y f)) → mj_W M_Wv_backward Q (1, 24, none) kc ks 28 [some (.ref a), some (.int (nI nx)), some (.int (nI ny)), some (.int (nI p)), some (.int 1), some (.int (nI y)), none, none, none] [] h := by
  intro n
  induction n with
  | zero =>
    intro y f h B hyn hy16 kk
    obtain ⟨h1, h2⟩ := id B
    refine mj_iload d_Wv_backward_28 rfl ?_
    refine mj_if_eq (tgt := 133) d_Wv_backward_30 (by decide) (fun c_30 => ?_) (fun c_30 => ?_)
    · exact absurd c_30 (by decide)
    · refine mj_iload d_Wv_backward_33 rfl ?_
      refine mj_iload_n d_Wv_backward_35 rfl ?_
      refine mj_iadd d_Wv_backward_36 ?_
      refine mj_iload_n d_Wv_backward_37 rfl ?_
      refine mj_icmp_ge (tgt := 133) d_Wv_backward_38 (by decide) (fun c_38 => ?_) (fun c_38 => ?_)
      · refine mj_fg 5 (L' := [some (.ref a), some (.int (nI nx)), some (.int (nI ny)), some (.int (nI p)), some (.int 1), none, none, none, none]) rfl ?_
        rw [show wv_y wv_ubk nx ny p 0 y f = f from rfl, B.idn] at kk
        exact kk
      · rw [nI_add] at c_38
        exact absurd (nI_le (by omega) (by omega)) c_38
  | succ n ih =>
    intro y f h B hyn hy16 kk
    obtain ⟨h1, h2⟩ := id B
    refine mj_iload d_Wv_backward_28 rfl ?_
    refine mj_if_eq (tgt := 133) d_Wv_backward_30 (by decide) (fun c_30 => ?_) (fun c_30 => ?_)
    · exact absurd c_30 (by decide)
    · refine mj_iload d_Wv_backward_33 rfl ?_
      refine mj_iload_n d_Wv_backward_35 rfl ?_
      refine mj_iadd d_Wv_backward_36 ?_
      refine mj_iload_n d_Wv_backward_37 rfl ?_
      refine mj_icmp_ge (tgt := 133) d_Wv_backward_38 (by decide) (fun c_38 => ?_) (fun c_38 => ?_)
      · rw [nI_add] at c_38
        have hge : ¬ y + p < ny := fun q => nI_ge q (by omega) c_38
        refine mj_fg 5 (L' := [some (.ref a), some (.int (nI nx)), some (.int (nI ny)), some (.int (nI p)), some (.int 1), none, none, none, none]) rfl ?_
        rw [show wv_y wv_ubk nx ny p (n + 1) y f = f by rw [wv_y, if_neg hge], B.idn] at kk
        exact kk
      · rw [nI_add] at c_38
        have hlt : y + p < ny := by
          rcases Nat.lt_or_ge (y + p) ny with q | q
          · exact q
          · exact absurd (nI_le q (by omega)) c_38
        refine mj_iconst (v := 0) d_Wv_backward_41 (by decide) ?_
        refine mj_istore (L' := [some (.ref a), some (.int (nI nx)), some (.int (nI ny)), some (.int (nI p)), some (.int 1), some (.int (nI y)), some (.int 0), none, none]) d_Wv_backward_42 (by decide) rfl rfl ?_
        refine lp_Wv_backward_x hx hlt hn hp nx 0 f h B (by omega) (by omega) ?_
        refine mj_iload d_Wv_backward_122 rfl ?_
        refine mj_iconst (v := 2) d_Wv_backward_124 (by decide) ?_
        refine mj_iload_n d_Wv_backward_125 rfl ?_
        refine mj_imul d_Wv_backward_126 ?_
        refine mj_iadd d_Wv_backward_127 ?_
        refine mj_topi (fun v1 e_v1 => ?_)
        refine mj_istore (L' := [some (.ref a), some (.int (nI nx)), some (.int (nI ny)), some (.int (nI p)), some (.int 1), some (.int v1), none, none, none]) d_Wv_backward_128 (by decide) rfl rfl ?_
        refine mj_goto (tgt := 28) d_Wv_backward_130 (by decide) ?_
        rw [e_v1, show nI y + 2 * nI p = nI (y + 2 * p) by rw [show (2 : Int32) = nI 2 from rfl, pk_mul, nI_add]]
        refine ih (y + 2 * p) _ _ (B.up) (by omega) (by omega) ?_
        rw [wv_upup]
        rw [show wv_y wv_ubk nx ny p (n + 1) y f = wv_y wv_ubk nx ny p n (y + 2 * p) (wv_x wv_ubk nx p y nx 0 f) by rw [wv_y, if_pos hlt]] at kk
        exact kk
