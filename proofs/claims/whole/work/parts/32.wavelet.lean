set_option maxRecDepth 100000 in
set_option maxHeartbeats 4000000 in
theorem lp_Wv_forward_p {Q : mj_E → mj_H → Prop} {a c nx ny kc ks : Nat} (hx : nx ≤ 8) (hn : ny ≤ 4) : ∀ (n p : Nat) (f : Nat → Int32) (h : mj_H), Wv h a c f → wv_min nx ny ≤ p + n → 1 ≤ p → p ≤ 16 → mj_W M_Wv_forward Q (1, 25, none) kc ks 123 [some (.ref a), some (.int (nI nx)), some (.int (nI ny)), none, none, none, none, none] [] (wv_up h c (wv_fp nx ny n p f)) → mj_W M_Wv_forward Q (1, 25, none) kc ks 2 [some (.ref a), some (.int (nI nx)), some (.int (nI ny)), some (.int (nI p)), none, none, none, none] [] h := by
  intro n
  induction n with
  | zero =>
    intro p f h B hpn hp hp16 kk
    obtain ⟨h1, h2⟩ := id B
    refine mj_iconst (v := 2) d_Wv_forward_2 (by decide) ?_
    refine mj_iload_n d_Wv_forward_3 rfl ?_
    refine mj_imul d_Wv_forward_4 ?_
    refine mj_iload_n d_Wv_forward_5 rfl ?_
    refine mj_iload_n d_Wv_forward_6 rfl ?_
    refine mj_cS (S := [.int (2 * (nI p))]) (S1 := [.int (if nI ny < nI nx then nI ny else nI nx), .int (2 * (nI p))]) (c_Ma_min _ _) d_Wv_forward_7 cw_Ma_min ml_Wv_16 st_Ma_min (by decide) rfl (Nat.le_of_ble_eq_true rfl) rfl rfl ?_
    refine mj_icmp_gt (tgt := 123) d_Wv_forward_10 (by decide) (fun c_10 => ?_) (fun c_10 => ?_)
    · refine mj_fg 3 (L' := [some (.ref a), some (.int (nI nx)), some (.int (nI ny)), none, none, none, none, none]) rfl ?_
      rw [show wv_fp nx ny 0 p f = f from rfl, B.idn] at kk
      exact kk
    · rw [wv_mn (by omega) (by omega), show (2 : Int32) = nI 2 from rfl, pk_mul] at c_10
      exact absurd ((nI_ltI (by unfold wv_min; split <;> omega) (by omega)).mpr (by omega)) c_10
  | succ n ih =>
    intro p f h B hpn hp hp16 kk
    obtain ⟨h1, h2⟩ := id B
    refine mj_iconst (v := 2) d_Wv_forward_2 (by decide) ?_
    refine mj_iload_n d_Wv_forward_3 rfl ?_
    refine mj_imul d_Wv_forward_4 ?_
    refine mj_iload_n d_Wv_forward_5 rfl ?_
    refine mj_iload_n d_Wv_forward_6 rfl ?_
    refine mj_cS (S := [.int (2 * (nI p))]) (S1 := [.int (if nI ny < nI nx then nI ny else nI nx), .int (2 * (nI p))]) (c_Ma_min _ _) d_Wv_forward_7 cw_Ma_min ml_Wv_16 st_Ma_min (by decide) rfl (Nat.le_of_ble_eq_true rfl) rfl rfl ?_
    refine mj_icmp_gt (tgt := 123) d_Wv_forward_10 (by decide) (fun c_10 => ?_) (fun c_10 => ?_)
    · rw [wv_mn (by omega) (by omega), show (2 : Int32) = nI 2 from rfl, pk_mul] at c_10
      have hgt : ¬ 2 * p ≤ wv_min nx ny := fun q => nI_nlt q (by unfold wv_min; split <;> omega) c_10
      refine mj_fg 3 (L' := [some (.ref a), some (.int (nI nx)), some (.int (nI ny)), none, none, none, none, none]) rfl ?_
      rw [show wv_fp nx ny (n + 1) p f = f by rw [wv_fp, if_neg hgt], B.idn] at kk
      exact kk
    · rw [wv_mn (by omega) (by omega), show (2 : Int32) = nI 2 from rfl, pk_mul] at c_10
      have hle : 2 * p ≤ wv_min nx ny := by
        rcases Nat.lt_or_ge (wv_min nx ny) (2 * p) with q | q
        · exact absurd ((nI_ltI (by unfold wv_min; split <;> omega) (by omega)).mpr q) c_10
        · exact q
      refine mj_iconst (v := 0) d_Wv_forward_13 (by decide) ?_
      refine mj_istore (L' := [some (.ref a), some (.int (nI nx)), some (.int (nI ny)), some (.int (nI p)), some (.int 0), none, none, none]) d_Wv_forward_14 (by decide) rfl rfl ?_
      have hm4 : wv_min nx ny ≤ 4 := by unfold wv_min; split <;> omega
      refine lp_Wv_forward_y hx hn hp (by omega) ny 0 f h B (by omega) (by omega) ?_
      refine mj_iload_n d_Wv_forward_116 rfl ?_
      refine mj_iconst (v := 2) d_Wv_forward_117 (by decide) ?_
      refine mj_imul d_Wv_forward_118 ?_
      refine mj_topi (fun v1 e_v1 => ?_)
      refine mj_istore_n (L' := [some (.ref a), some (.int (nI nx)), some (.int (nI ny)), some (.int v1), none, none, none, none]) d_Wv_forward_119 (by decide) rfl rfl ?_
      refine mj_goto (tgt := 2) d_Wv_forward_120 (by decide) ?_
      rw [e_v1, show nI p * 2 = nI (2 * p) by rw [show (2 : Int32) = nI 2 from rfl, pk_mul, Nat.mul_comm]]
      refine ih (2 * p) _ _ (B.up) (by omega) (by omega) (by omega) ?_
      rw [wv_upup]
      rw [show wv_fp nx ny (n + 1) p f = wv_fp nx ny n (2 * p) (wv_y wv_blk nx ny p ny 0 f) by rw [wv_fp, if_pos hle]] at kk
      exact kk
set_option maxRecDepth 100000 in
set_option maxHeartbeats 4000000 in
theorem c_Wv_forward {h : mj_H} {a c : Nat} {f : Nat → Int32} (B : Wv h a c f) {nx ny : Nat} (hx : nx ≤ 8) (hn : ny ≤ 4) : mj_Met M_Wv_forward (1, 25, none) 0 0 [.ref a, .int (nI nx), .int (nI ny)] h (mj_q none (wv_up h c (wv_fwd nx ny f))) := by
  refine mj_enter (r := 5) rfl rfl (by decide) rfl ?_
  show mj_W M_Wv_forward _ _ _ _ 0 [some (.ref a), some (.int (nI nx)), some (.int (nI ny)), none, none, none, none, none] [] h
  refine mj_iconst (v := 1) d_Wv_forward_0 (by decide) ?_
  refine mj_istore_n (L' := [some (.ref a), some (.int (nI nx)), some (.int (nI ny)), some (.int 1), none, none, none, none]) d_Wv_forward_1 (by decide) rfl rfl ?_
  refine lp_Wv_forward_p hx hn 8 1 f h B (by unfold wv_min; split <;> omega) (by omega) (by omega) ?_
  exact mj_vret rfl d_Wv_forward_123 ⟨rfl, rfl⟩
set_option maxRecDepth 100000 in
set_option maxHeartbeats 4000000 in
theorem lp_Wv_backward_p {Q : mj_E → mj_H → Prop} {h : mj_H} {a c nx ny kc ks : Nat} {f : Nat → Int32} (B : Wv h a c f) (hx : nx ≤ 8) (hn : ny ≤ 4) {p : Nat} (hp : 1 ≤ p) (hp4 : p ≤ 4) (kk : mj_W M_Wv_backward Q (1, 24, none) kc ks 2 [some (.ref a), some (.int (nI nx)), some (.int (nI ny)), some (.int (nI (p / 2))), none, none, none, none, none] [] (wv_up h c (wv_bp nx ny p f))) : mj_W M_Wv_backward Q (1, 24, none) kc ks 2 [some (.ref a), some (.int (nI nx)), some (.int (nI ny)), some (.int (nI p)), none, none, none, none, none] [] h := by
  obtain ⟨h1, h2⟩ := id B
  refine mj_iload_n d_Wv_backward_2 rfl ?_
  refine mj_iconst (v := 1) d_Wv_backward_3 (by decide) ?_
  refine mj_icmp_lt (tgt := 140) d_Wv_backward_4 (by decide) (fun c_4 => ?_) (fun c_4 => ?_)
  · exact absurd c_4 (nI_nlt hp (by omega))
  · refine mj_iconst (v := 2) d_Wv_backward_7 (by decide) ?_
    refine mj_iload_n d_Wv_backward_8 rfl ?_
    refine mj_imul d_Wv_backward_9 ?_
    refine mj_iload_n d_Wv_backward_10 rfl ?_
    refine mj_iload_n d_Wv_backward_11 rfl ?_
    refine mj_cS (S := [.int (2 * (nI p))]) (S1 := [.int (if nI ny < nI nx then nI ny else nI nx), .int (2 * (nI p))]) (c_Ma_min _ _) d_Wv_backward_12 cw_Ma_min ml_Wv_16 st_Ma_min (by decide) rfl (Nat.le_of_ble_eq_true rfl) rfl rfl ?_
    refine mj_icmp_gt (tgt := 22) d_Wv_backward_15 (by decide) (fun c_15 => ?_) (fun c_15 => ?_)
    · refine mj_iconst (v := 0) d_Wv_backward_22 (by decide) ?_
      refine mj_istore (L' := [some (.ref a), some (.int (nI nx)), some (.int (nI ny)), some (.int (nI p)), some (.int 0), none, none, none, none]) d_Wv_backward_23 (by decide) rfl rfl ?_
      refine mj_iconst (v := 0) d_Wv_backward_25 (by decide) ?_
      refine mj_istore (L' := [some (.ref a), some (.int (nI nx)), some (.int (nI ny)), some (.int (nI p)), some (.int 0), some (.int 0), none, none, none]) d_Wv_backward_26 (by decide) rfl rfl ?_
      rw [wv_mn (by omega) (by omega), show (2 : Int32) = nI 2 from rfl, pk_mul] at c_15
      have hgt : ¬ 2 * p ≤ wv_min nx ny := fun q => nI_nlt q (by unfold wv_min; split <;> omega) c_15
      refine mj_iload d_Wv_backward_28 rfl ?_
      refine mj_if_eq (tgt := 133) d_Wv_backward_30 (by decide) (fun c_30 => ?_) (fun c_30 => ?_)
      · refine mj_iload_n d_Wv_backward_133 rfl ?_
        refine mj_iconst (v := 2) d_Wv_backward_134 (by decide) ?_
        refine mj_idiv d_Wv_backward_135 (by decide) ?_
        refine mj_topi (fun v1 e_v1 => ?_)
        refine mj_istore_n (L' := [some (.ref a), some (.int (nI nx)), some (.int (nI ny)), some (.int v1), some (.int 0), some (.int 0), none, none, none]) d_Wv_backward_136 (by decide) rfl rfl ?_
        refine mj_goto (tgt := 2) d_Wv_backward_137 (by decide) ?_
        refine mj_fg 4 (L' := [some (.ref a), some (.int (nI nx)), some (.int (nI ny)), some (.int v1), none, some (.int 0), none, none, none]) rfl ?_
        refine mj_fg 5 (L' := [some (.ref a), some (.int (nI nx)), some (.int (nI ny)), some (.int v1), none, none, none, none, none]) rfl ?_
        rw [e_v1, show (2 : Int32) = nI 2 from rfl, pk_div (by omega) (by decide) (by decide)]
        rw [show wv_bp nx ny p f = f by unfold wv_bp; rw [if_neg hgt], B.idn] at kk
        exact kk
      · exact absurd rfl c_30
    · refine mj_iconst (v := 1) d_Wv_backward_18 (by decide) ?_
      refine mj_goto (tgt := 23) d_Wv_backward_19 (by decide) ?_
      refine mj_istore (L' := [some (.ref a), some (.int (nI nx)), some (.int (nI ny)), some (.int (nI p)), some (.int 1), none, none, none, none]) d_Wv_backward_23 (by decide) rfl rfl ?_
      refine mj_iconst (v := 0) d_Wv_backward_25 (by decide) ?_
      refine mj_istore (L' := [some (.ref a), some (.int (nI nx)), some (.int (nI ny)), some (.int (nI p)), some (.int 1), some (.int 0), none, none, none]) d_Wv_backward_26 (by decide) rfl rfl ?_
      rw [wv_mn (by omega) (by omega), show (2 : Int32) = nI 2 from rfl, pk_mul] at c_15
      have hle : 2 * p ≤ wv_min nx ny := by
        rcases Nat.lt_or_ge (wv_min nx ny) (2 * p) with q | q
        · exact absurd ((nI_ltI (by unfold wv_min; split <;> omega) (by omega)).mpr q) c_15
        · exact q
      refine lp_Wv_backward_y hx hn hp hp4 ny 0 f h B (by omega) (by omega) ?_
      refine mj_iload_n d_Wv_backward_133 rfl ?_
      refine mj_iconst (v := 2) d_Wv_backward_134 (by decide) ?_
      refine mj_idiv d_Wv_backward_135 (by decide) ?_
      refine mj_topi (fun v2 e_v2 => ?_)
      refine mj_istore_n (L' := [some (.ref a), some (.int (nI nx)), some (.int (nI ny)), some (.int v2), some (.int 1), none, none, none, none]) d_Wv_backward_136 (by decide) rfl rfl ?_
      refine mj_goto (tgt := 2) d_Wv_backward_137 (by decide) ?_
      refine mj_fg 4 (L' := [some (.ref a), some (.int (nI nx)), some (.int (nI ny)), some (.int v2), none, none, none, none, none]) rfl ?_
      rw [e_v2, show (2 : Int32) = nI 2 from rfl, pk_div (by omega) (by decide) (by decide)]
      rw [show wv_bp nx ny p f = wv_y wv_ubk nx ny p ny 0 f by unfold wv_bp; rw [if_pos hle]] at kk
      exact kk
set_option maxRecDepth 100000 in
set_option maxHeartbeats 4000000 in
theorem c_Wv_backward {h : mj_H} {a c : Nat} {f : Nat → Int32} (B : Wv h a c f) {nx ny : Nat} (hx : nx ≤ 8) (hn : ny ≤ 4) : mj_Met M_Wv_backward (1, 24, none) 0 0 [.ref a, .int (nI nx), .int (nI ny)] h (mj_q none (wv_up h c (wv_bwd nx ny f))) := by
  refine mj_enter (r := 6) rfl rfl (by decide) rfl ?_
  show mj_W M_Wv_backward _ _ _ _ 0 [some (.ref a), some (.int (nI nx)), some (.int (nI ny)), none, none, none, none, none, none] [] h
  refine mj_iconst (v := 4) d_Wv_backward_0 (by decide) ?_
  refine mj_istore_n (L' := [some (.ref a), some (.int (nI nx)), some (.int (nI ny)), some (.int 4), none, none, none, none, none]) d_Wv_backward_1 (by decide) rfl rfl ?_
  refine lp_Wv_backward_p B hx hn (p := 4) (by decide) (by decide) ?_
  refine lp_Wv_backward_p (p := 2) B.up hx hn (by decide) (by decide) ?_
  rw [wv_upup]
  refine lp_Wv_backward_p (p := 1) B.up hx hn (by decide) (by decide) ?_
  rw [wv_upup]
  refine mj_iload_n d_Wv_backward_2 rfl ?_
  refine mj_iconst (v := 1) d_Wv_backward_3 (by decide) ?_
  refine mj_icmp_lt (tgt := 140) d_Wv_backward_4 (by decide) (fun c_4 => ?_) (fun c_4 => absurd (by decide) c_4)
  exact mj_vret rfl d_Wv_backward_140 ⟨rfl, rfl⟩
