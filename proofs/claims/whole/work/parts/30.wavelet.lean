/-! Wavelet: a table of 32 cells -/
def Wv (h : mj_H) (a c : Nat) (f : Nat → Int32) : Prop := h[a]? = some (.inr (6, [.ref c])) ∧ h[c]? = some (.inl (32, .inl f))
def wv_up (h : mj_H) (c : Nat) (f : Nat → Int32) : mj_H := h.set c (.inl (32, .inl f))
theorem Wv.up {h : mj_H} {a c : Nat} {f f' : Nat → Int32} (B : Wv h a c f) : Wv (wv_up h c f') a c f' := ⟨mj_sN (Ne.symm (mj_ne B.1 B.2)) B.1, mj_sS B.2⟩
theorem wv_upup {h : mj_H} {c : Nat} {f f' : Nat → Int32} : wv_up (wv_up h c f) c f' = wv_up h c f' := by unfold wv_up; rw [List.set_set]
theorem Wv.idn {h : mj_H} {a c : Nat} {f : Nat → Int32} (B : Wv h a c f) : wv_up h c f = h := mj_sE B.2
/-- the two numbers that two become; and back -/
def wv_m (u v : Int32) : Int32 := if 0 ≤ ((u + 32768) &&& 65535) - v then (((u + 32768) &&& 65535) + v) / 2 else ((((u + 32768) &&& 65535) + v) / 2 + 32768) &&& 65535
def wv_w (u v : Int32) : Int32 := (((u + 32768) &&& 65535) - v) &&& 65535
def wv_s (m w : Int32) : Int32 := (m - w / 2) &&& 65535
def wv_f (m w : Int32) : Int32 := (w + wv_s m w - 32768) &&& 65535
def wv_mix (f : Nat → Int32) (u v : Nat) : Nat → Int32 := upd (upd f u (wv_m (f u) (f v))) v (wv_w (f u) (f v))
def wv_unm (f : Nat → Int32) (u v : Nat) : Nat → Int32 := upd (upd f u (wv_f (f u) (f v))) v (wv_s (f u) (f v))
theorem wv_ix (x y : Nat) : nI y * 8 + nI x = nI (8 * y + x) := by
  rw [show (8 : Int32) = nI 8 from rfl, pk_mul, nI_add, Nat.mul_comm y]
def wv_blk (f : Nat → Int32) (q p : Nat) : Nat → Int32 := wv_mix (wv_mix (wv_mix (wv_mix f q (q + p)) (q + 8 * p) (q + 8 * p + p)) q (q + 8 * p)) (q + p) (q + 8 * p + p)
def wv_ubk (f : Nat → Int32) (q p : Nat) : Nat → Int32 := wv_unm (wv_unm (wv_unm (wv_unm f q (q + 8 * p)) (q + p) (q + 8 * p + p)) q (q + p)) (q + 8 * p) (q + 8 * p + p)
def wv_min (x y : Nat) : Nat := if y < x then y else x
theorem wv_mn {x y : Nat} (hx : x < 2 ^ 31) (hy : y < 2 ^ 31) : (if nI y < nI x then nI y else nI x) = nI (wv_min x y) := by
  unfold wv_min
  by_cases q : y < x
  · rw [if_pos q, if_pos ((nI_ltI hy hx).mpr q)]
  · rw [if_neg q, if_neg (fun z => q ((nI_ltI hy hx).mp z))]
/-- by a block's work b: along x, along y -/
def wv_x (b : (Nat → Int32) → Nat → Nat → Nat → Int32) (nx p y : Nat) : Nat → Nat → (Nat → Int32) → Nat → Int32
  | 0, _, f => f
  | n + 1, x, f => if x + p < nx then wv_x b nx p y n (x + 2 * p) (b f (8 * y + x) p) else f
def wv_y (b : (Nat → Int32) → Nat → Nat → Nat → Int32) (nx ny p : Nat) : Nat → Nat → (Nat → Int32) → Nat → Int32
  | 0, _, f => f
  | n + 1, y, f => if y + p < ny then wv_y b nx ny p n (y + 2 * p) (wv_x b nx p y nx 0 f) else f
def wv_fp (nx ny : Nat) : Nat → Nat → (Nat → Int32) → Nat → Int32
  | 0, _, f => f
  | n + 1, p, f => if 2 * p ≤ wv_min nx ny then wv_fp nx ny n (2 * p) (wv_y wv_blk nx ny p ny 0 f) else f
def wv_fwd (nx ny : Nat) (f : Nat → Int32) : Nat → Int32 := wv_fp nx ny 8 1 f
def wv_bp (nx ny p : Nat) (f : Nat → Int32) : Nat → Int32 := if 2 * p ≤ wv_min nx ny then wv_y wv_ubk nx ny p ny 0 f else f
def wv_bwd (nx ny : Nat) (f : Nat → Int32) : Nat → Int32 := wv_bp nx ny 1 (wv_bp nx ny 2 (wv_bp nx ny 4 f))
set_option maxRecDepth 100000 in
set_option maxHeartbeats 4000000 in
theorem c_Wv_at {h : mj_H} {a c : Nat} {f : Nat → Int32} (B : Wv h a c f) {x y : Nat} (hx : x < 8) (hy : y < 4) : mj_Met M_Wv_at (0, 0, none) 0 0 [.ref a, .int (nI x), .int (nI y)] h (mj_q (some (.int (f (8 * y + x)))) h) := by
  obtain ⟨h1, h2⟩ := id B
  refine mj_enter (r := 0) rfl rfl (by decide) rfl ?_
  show mj_W M_Wv_at _ _ _ _ 0 [some (.ref a), some (.int (nI x)), some (.int (nI y))] [] h
  refine mj_aload_n d_Wv_at_0 rfl ?_
  refine mj_get ok_Wv (k := 0) (by decide) fl_Wv_9 d_Wv_at_1 h1 rfl ?_
  refine mj_iload_n d_Wv_at_4 rfl ?_
  refine mj_bipush (v := 8) d_Wv_at_5 (by decide) ?_
  refine mj_imul d_Wv_at_7 ?_
  refine mj_iload_n d_Wv_at_8 rfl ?_
  refine mj_iadd d_Wv_at_9 ?_
  refine mj_iald d_Wv_at_10 h2 (by rw [wv_ix]; exact vp_in_nI (by omega) (by decide)) ?_
  exact mj_iret rfl d_Wv_at_11 ⟨by rw [wv_ix, nI_clamp (by omega)], rfl⟩
set_option maxRecDepth 100000 in
set_option maxHeartbeats 4000000 in
theorem c_Wv_put {h : mj_H} {a c : Nat} {f : Nat → Int32} (B : Wv h a c f) {x y : Nat} (hx : x < 8) (hy : y < 4) (z : Int32) : mj_Met M_Wv_put (0, 0, none) 0 0 [.ref a, .int (nI x), .int (nI y), .int z] h (mj_q none (wv_up h c (upd f (8 * y + x) (z &&& 65535)))) := by
  obtain ⟨h1, h2⟩ := id B
  refine mj_enter (r := 0) rfl rfl (by decide) rfl ?_
  show mj_W M_Wv_put _ _ _ _ 0 [some (.ref a), some (.int (nI x)), some (.int (nI y)), some (.int z)] [] h
  refine mj_aload_n d_Wv_put_0 rfl ?_
  refine mj_get ok_Wv (k := 0) (by decide) fl_Wv_9 d_Wv_put_1 h1 rfl ?_
  refine mj_iload_n d_Wv_put_4 rfl ?_
  refine mj_bipush (v := 8) d_Wv_put_5 (by decide) ?_
  refine mj_imul d_Wv_put_7 ?_
  refine mj_iload_n d_Wv_put_8 rfl ?_
  refine mj_iadd d_Wv_put_9 ?_
  refine mj_iload_n d_Wv_put_10 rfl ?_
  refine mj_ldc d_Wv_put_11 k_Wv_15 ?_
  refine mj_iand d_Wv_put_13 ?_
  refine mj_topi (fun v1 e_v1 => ?_)
  refine mj_iast d_Wv_put_14 h2 (by rw [wv_ix]; exact vp_in_nI (by omega) (by decide)) ?_
  obtain ⟨hh2, e_hh2⟩ : ∃ q_ : mj_H, q_ = h.set c (.inl (32, .inl (upd f (((((nI y) * 8)) + (nI x)) : Int32).toNatClampNeg v1))) := ⟨_, rfl⟩
  refine mj_hp e_hh2 ?_
  have k3 := mj_sN (y := .inl (32, .inl (upd f (((((nI y) * 8)) + (nI x)) : Int32).toNatClampNeg v1))) (Ne.symm (mj_ne h1 h2)) h1
  rw [← e_hh2] at k3
  have k4 : hh2[c]? = some (.inl (32, .inl (upd f (((((nI y) * 8)) + (nI x)) : Int32).toNatClampNeg v1))) := by rw [e_hh2]; exact mj_sS h2
  exact mj_vret rfl d_Wv_put_15 ⟨rfl, by rw [e_hh2, wv_ix, nI_clamp (by omega), e_v1]; rfl⟩
set_option maxRecDepth 100000 in
set_option maxHeartbeats 4000000 in
theorem c_Wv_mix {h : mj_H} {a c : Nat} {f : Nat → Int32} (B : Wv h a c f) {u v : Nat} (hu : u < 32) (hv : v < 32) : mj_Met M_Wv_mix (0, 0, none) 0 0 [.ref a, .int (nI u), .int (nI v)] h (mj_q none (wv_up h c (wv_mix f u v))) := by
  obtain ⟨h1, h2⟩ := id B
  refine mj_enter (r := 3) rfl rfl (by decide) rfl ?_
  show mj_W M_Wv_mix _ _ _ _ 0 [some (.ref a), some (.int (nI u)), some (.int (nI v)), none, none, none] [] h
  refine mj_aload_n d_Wv_mix_0 rfl ?_
  refine mj_get ok_Wv (k := 0) (by decide) fl_Wv_9 d_Wv_mix_1 h1 rfl ?_
  refine mj_iload_n d_Wv_mix_4 rfl ?_
  refine mj_iald d_Wv_mix_5 h2 (vp_in_nI hu (by decide)) ?_
  refine mj_ldc d_Wv_mix_6 k_Wv_29 ?_
  refine mj_iadd d_Wv_mix_8 ?_
  refine mj_ldc d_Wv_mix_9 k_Wv_15 ?_
  refine mj_iand d_Wv_mix_11 ?_
  refine mj_topi (fun v1 e_v1 => ?_)
  refine mj_istore_n (L' := [some (.ref a), some (.int (nI u)), some (.int (nI v)), some (.int v1), none, none]) d_Wv_mix_12 (by decide) rfl rfl ?_
  refine mj_iload_n d_Wv_mix_13 rfl ?_
  refine mj_aload_n d_Wv_mix_14 rfl ?_
  refine mj_get ok_Wv (k := 0) (by decide) fl_Wv_9 d_Wv_mix_15 h1 rfl ?_
  refine mj_iload_n d_Wv_mix_18 rfl ?_
  refine mj_iald d_Wv_mix_19 h2 (vp_in_nI hv (by decide)) ?_
  refine mj_iadd d_Wv_mix_20 ?_
  refine mj_iconst (v := 2) d_Wv_mix_21 (by decide) ?_
  refine mj_idiv d_Wv_mix_22 (by decide) ?_
  refine mj_topi (fun v2 e_v2 => ?_)
  refine mj_istore (L' := [some (.ref a), some (.int (nI u)), some (.int (nI v)), some (.int v1), some (.int v2), none]) d_Wv_mix_23 (by decide) rfl rfl ?_
  refine mj_iload_n d_Wv_mix_25 rfl ?_
  refine mj_aload_n d_Wv_mix_26 rfl ?_
  refine mj_get ok_Wv (k := 0) (by decide) fl_Wv_9 d_Wv_mix_27 h1 rfl ?_
  refine mj_iload_n d_Wv_mix_30 rfl ?_
  refine mj_iald d_Wv_mix_31 h2 (vp_in_nI hv (by decide)) ?_
  refine mj_isub d_Wv_mix_32 ?_
  refine mj_topi (fun v3 e_v3 => ?_)
  refine mj_istore (L' := [some (.ref a), some (.int (nI u)), some (.int (nI v)), some (.int v1), some (.int v2), some (.int v3)]) d_Wv_mix_33 (by decide) rfl rfl ?_
  refine mj_aload_n d_Wv_mix_35 rfl ?_
  refine mj_get ok_Wv (k := 0) (by decide) fl_Wv_9 d_Wv_mix_36 h1 rfl ?_
  refine mj_iload_n d_Wv_mix_39 rfl ?_
  refine mj_iload d_Wv_mix_40 rfl ?_
  refine mj_if_ge (tgt := 56) d_Wv_mix_42 (by decide) (fun c_42 => ?_) (fun c_42 => ?_)
  · refine mj_iload d_Wv_mix_56 rfl ?_
    refine mj_iast d_Wv_mix_58 h2 (vp_in_nI hu (by decide)) ?_
    obtain ⟨hh4, e_hh4⟩ : ∃ q_ : mj_H, q_ = h.set c (.inl (32, .inl (upd f ((nI u) : Int32).toNatClampNeg v2))) := ⟨_, rfl⟩
    refine mj_hp e_hh4 ?_
    have k5 := mj_sN (y := .inl (32, .inl (upd f ((nI u) : Int32).toNatClampNeg v2))) (Ne.symm (mj_ne h1 h2)) h1
    rw [← e_hh4] at k5
    have k6 : hh4[c]? = some (.inl (32, .inl (upd f ((nI u) : Int32).toNatClampNeg v2))) := by rw [e_hh4]; exact mj_sS h2
    refine mj_aload_n d_Wv_mix_59 rfl ?_
    refine mj_get ok_Wv (k := 0) (by decide) fl_Wv_9 d_Wv_mix_60 k5 rfl ?_
    refine mj_iload_n d_Wv_mix_63 rfl ?_
    refine mj_iload d_Wv_mix_64 rfl ?_
    refine mj_ldc d_Wv_mix_66 k_Wv_15 ?_
    refine mj_iand d_Wv_mix_68 ?_
    refine mj_topi (fun v7 e_v7 => ?_)
    refine mj_iast d_Wv_mix_69 k6 (vp_in_nI hv (by decide)) ?_
    obtain ⟨hh8, e_hh8⟩ : ∃ q_ : mj_H, q_ = hh4.set c (.inl (32, .inl (upd ((upd f ((nI u) : Int32).toNatClampNeg v2)) ((nI v) : Int32).toNatClampNeg v7))) := ⟨_, rfl⟩
    refine mj_hp e_hh8 ?_
    have k9 := mj_sN (y := .inl (32, .inl (upd ((upd f ((nI u) : Int32).toNatClampNeg v2)) ((nI v) : Int32).toNatClampNeg v7))) (Ne.symm (mj_ne h1 h2)) k5
    rw [← e_hh8] at k9
    have k10 : hh8[c]? = some (.inl (32, .inl (upd ((upd f ((nI u) : Int32).toNatClampNeg v2)) ((nI v) : Int32).toNatClampNeg v7))) := by rw [e_hh8]; exact mj_sS k6
    have eu : (nI u).toNatClampNeg = u := nI_clamp (by omega)
    have ev : (nI v).toNatClampNeg = v := nI_clamp (by omega)
    refine mj_vret rfl d_Wv_mix_70 ⟨rfl, ?_⟩
    rw [e_hh8, e_hh4, List.set_set, eu, ev]
    unfold wv_up wv_mix wv_m wv_w
    rw [if_pos (by rw [e_v3, e_v1, eu, ev] at c_42; exact c_42)]
    subst e_v7 e_v3 e_v2 e_v1
    rw [eu, ev]
  · refine mj_iload d_Wv_mix_45 rfl ?_
    refine mj_ldc d_Wv_mix_47 k_Wv_29 ?_
    refine mj_iadd d_Wv_mix_49 ?_
    refine mj_ldc d_Wv_mix_50 k_Wv_15 ?_
    refine mj_iand d_Wv_mix_52 ?_
    refine mj_goto (tgt := 58) d_Wv_mix_53 (by decide) ?_
    refine mj_topi (fun v11 e_v11 => ?_)
    refine mj_iast d_Wv_mix_58 h2 (vp_in_nI hu (by decide)) ?_
    obtain ⟨hh12, e_hh12⟩ : ∃ q_ : mj_H, q_ = h.set c (.inl (32, .inl (upd f ((nI u) : Int32).toNatClampNeg v11))) := ⟨_, rfl⟩
    refine mj_hp e_hh12 ?_
    have k13 := mj_sN (y := .inl (32, .inl (upd f ((nI u) : Int32).toNatClampNeg v11))) (Ne.symm (mj_ne h1 h2)) h1
    rw [← e_hh12] at k13
    have k14 : hh12[c]? = some (.inl (32, .inl (upd f ((nI u) : Int32).toNatClampNeg v11))) := by rw [e_hh12]; exact mj_sS h2
    refine mj_aload_n d_Wv_mix_59 rfl ?_
    refine mj_get ok_Wv (k := 0) (by decide) fl_Wv_9 d_Wv_mix_60 k13 rfl ?_
    refine mj_iload_n d_Wv_mix_63 rfl ?_
    refine mj_iload d_Wv_mix_64 rfl ?_
    refine mj_ldc d_Wv_mix_66 k_Wv_15 ?_
    refine mj_iand d_Wv_mix_68 ?_
    refine mj_topi (fun v15 e_v15 => ?_)
    refine mj_iast d_Wv_mix_69 k14 (vp_in_nI hv (by decide)) ?_
    obtain ⟨hh16, e_hh16⟩ : ∃ q_ : mj_H, q_ = hh12.set c (.inl (32, .inl (upd ((upd f ((nI u) : Int32).toNatClampNeg v11)) ((nI v) : Int32).toNatClampNeg v15))) := ⟨_, rfl⟩
    refine mj_hp e_hh16 ?_
    have k17 := mj_sN (y := .inl (32, .inl (upd ((upd f ((nI u) : Int32).toNatClampNeg v11)) ((nI v) : Int32).toNatClampNeg v15))) (Ne.symm (mj_ne h1 h2)) k13
    rw [← e_hh16] at k17
    have k18 : hh16[c]? = some (.inl (32, .inl (upd ((upd f ((nI u) : Int32).toNatClampNeg v11)) ((nI v) : Int32).toNatClampNeg v15))) := by rw [e_hh16]; exact mj_sS k14
    have eu : (nI u).toNatClampNeg = u := nI_clamp (by omega)
    have ev : (nI v).toNatClampNeg = v := nI_clamp (by omega)
    refine mj_vret rfl d_Wv_mix_70 ⟨rfl, ?_⟩
    rw [e_hh16, e_hh12, List.set_set, eu, ev]
    unfold wv_up wv_mix wv_m wv_w
    rw [if_neg (by rw [e_v3, e_v1, eu, ev] at c_42; exact c_42)]
    subst e_v15 e_v11 e_v3 e_v2 e_v1
    rw [eu, ev]
set_option maxRecDepth 100000 in
set_option maxHeartbeats 4000000 in
theorem c_Wv_unmix {h : mj_H} {a c : Nat} {f : Nat → Int32} (B : Wv h a c f) {u v : Nat} (hu : u < 32) (hv : v < 32) : mj_Met M_Wv_unmix (0, 0, none) 0 0 [.ref a, .int (nI u), .int (nI v)] h (mj_q none (wv_up h c (wv_unm f u v))) := by
  obtain ⟨h1, h2⟩ := id B
  refine mj_enter (r := 2) rfl rfl (by decide) rfl ?_
  show mj_W M_Wv_unmix _ _ _ _ 0 [some (.ref a), some (.int (nI u)), some (.int (nI v)), none, none] [] h
  refine mj_aload_n d_Wv_unmix_0 rfl ?_
  refine mj_get ok_Wv (k := 0) (by decide) fl_Wv_9 d_Wv_unmix_1 h1 rfl ?_
  refine mj_iload_n d_Wv_unmix_4 rfl ?_
  refine mj_iald d_Wv_unmix_5 h2 (vp_in_nI hu (by decide)) ?_
  refine mj_aload_n d_Wv_unmix_6 rfl ?_
  refine mj_get ok_Wv (k := 0) (by decide) fl_Wv_9 d_Wv_unmix_7 h1 rfl ?_
  refine mj_iload_n d_Wv_unmix_10 rfl ?_
  refine mj_iald d_Wv_unmix_11 h2 (vp_in_nI hv (by decide)) ?_
  refine mj_iconst (v := 2) d_Wv_unmix_12 (by decide) ?_
  refine mj_idiv d_Wv_unmix_13 (by decide) ?_
  refine mj_isub d_Wv_unmix_14 ?_
  refine mj_ldc d_Wv_unmix_15 k_Wv_15 ?_
  refine mj_iand d_Wv_unmix_17 ?_
  refine mj_topi (fun v1 e_v1 => ?_)
  refine mj_istore_n (L' := [some (.ref a), some (.int (nI u)), some (.int (nI v)), some (.int v1), none]) d_Wv_unmix_18 (by decide) rfl rfl ?_
  refine mj_aload_n d_Wv_unmix_19 rfl ?_
  refine mj_get ok_Wv (k := 0) (by decide) fl_Wv_9 d_Wv_unmix_20 h1 rfl ?_
  refine mj_iload_n d_Wv_unmix_23 rfl ?_
  refine mj_iald d_Wv_unmix_24 h2 (vp_in_nI hv (by decide)) ?_
  refine mj_iload_n d_Wv_unmix_25 rfl ?_
  refine mj_iadd d_Wv_unmix_26 ?_
  refine mj_ldc d_Wv_unmix_27 k_Wv_29 ?_
  refine mj_isub d_Wv_unmix_29 ?_
  refine mj_ldc d_Wv_unmix_30 k_Wv_15 ?_
  refine mj_iand d_Wv_unmix_32 ?_
  refine mj_topi (fun v2 e_v2 => ?_)
  refine mj_istore (L' := [some (.ref a), some (.int (nI u)), some (.int (nI v)), some (.int v1), some (.int v2)]) d_Wv_unmix_33 (by decide) rfl rfl ?_
  refine mj_aload_n d_Wv_unmix_35 rfl ?_
  refine mj_get ok_Wv (k := 0) (by decide) fl_Wv_9 d_Wv_unmix_36 h1 rfl ?_
  refine mj_iload_n d_Wv_unmix_39 rfl ?_
  refine mj_iload d_Wv_unmix_40 rfl ?_
  refine mj_iast d_Wv_unmix_42 h2 (vp_in_nI hu (by decide)) ?_
  obtain ⟨hh3, e_hh3⟩ : ∃ q_ : mj_H, q_ = h.set c (.inl (32, .inl (upd f ((nI u) : Int32).toNatClampNeg v2))) := ⟨_, rfl⟩
  refine mj_hp e_hh3 ?_
  have k4 := mj_sN (y := .inl (32, .inl (upd f ((nI u) : Int32).toNatClampNeg v2))) (Ne.symm (mj_ne h1 h2)) h1
  rw [← e_hh3] at k4
  have k5 : hh3[c]? = some (.inl (32, .inl (upd f ((nI u) : Int32).toNatClampNeg v2))) := by rw [e_hh3]; exact mj_sS h2
  refine mj_aload_n d_Wv_unmix_43 rfl ?_
  refine mj_get ok_Wv (k := 0) (by decide) fl_Wv_9 d_Wv_unmix_44 k4 rfl ?_
  refine mj_iload_n d_Wv_unmix_47 rfl ?_
  refine mj_iload_n d_Wv_unmix_48 rfl ?_
  refine mj_iast d_Wv_unmix_49 k5 (vp_in_nI hv (by decide)) ?_
  obtain ⟨hh6, e_hh6⟩ : ∃ q_ : mj_H, q_ = hh3.set c (.inl (32, .inl (upd ((upd f ((nI u) : Int32).toNatClampNeg v2)) ((nI v) : Int32).toNatClampNeg v1))) := ⟨_, rfl⟩
  refine mj_hp e_hh6 ?_
  have k7 := mj_sN (y := .inl (32, .inl (upd ((upd f ((nI u) : Int32).toNatClampNeg v2)) ((nI v) : Int32).toNatClampNeg v1))) (Ne.symm (mj_ne h1 h2)) k4
  rw [← e_hh6] at k7
  have k8 : hh6[c]? = some (.inl (32, .inl (upd ((upd f ((nI u) : Int32).toNatClampNeg v2)) ((nI v) : Int32).toNatClampNeg v1))) := by rw [e_hh6]; exact mj_sS k5
  have eu : (nI u).toNatClampNeg = u := nI_clamp (by omega)
  have ev : (nI v).toNatClampNeg = v := nI_clamp (by omega)
  refine mj_vret rfl d_Wv_unmix_50 ⟨rfl, ?_⟩
  rw [e_hh6, e_hh3, List.set_set, eu, ev]
  unfold wv_up wv_unm wv_f wv_s
  subst e_v2 e_v1
  rw [eu, ev]
