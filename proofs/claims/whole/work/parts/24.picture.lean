def rf_by (t : Int32) (k : Nat) : Nat := if t = 1 then (if k = 2 then 3 else 4) else 2
theorem rf_bytes_by (t : Int32) {k : Nat} (hk : k < 4) : rf_bytes t (nI k) = nI (rf_by t k) := by
  unfold rf_bytes rf_by
  by_cases q : t = 1
  · rw [if_pos q, if_pos q]
    by_cases q2 : k = 2
    · rw [if_pos q2, if_pos (by rw [q2]; rfl)]
      rfl
    · rw [if_neg q2, if_neg (fun z => q2 (by rw [show (2 : Int32) = nI 2 from rfl, nI_eq (by omega) (by omega)] at z; exact z))]
      rfl
  · rw [if_neg q, if_neg q]
    rfl
def pi_rwC (p : pi_P) (k y : Nat) : Nat → Nat → Nat → Nat
  | 0, _, z => z
  | j + 1, c, z => pi_rwC p k y j (c + 1) (if p.2.2.2.2.2.1 c = 1 ∨ y % 2 = 0 then z + pi_on p c p.1 * rf_by (p.2.2.2.2.1 c) k else z)
def pi_rwY (p : pi_P) (k : Nat) : Nat → Nat → Nat → Nat
  | 0, _, z => z
  | j + 1, y, z => pi_rwY p k j (y + 1) (pi_rwC p k y p.2.2.1 0 z)
def pi_raw (p : pi_P) (y k : Nat) : Nat := pi_rwY p k (pi_end p y k - y) y 0
theorem pi_end_le (p : pi_P) (y k : Nat) : pi_end p y k ≤ p.2.1 := by unfold pi_end; split <;> omega
set_option maxRecDepth 100000 in
set_option maxHeartbeats 4000000 in
theorem lp_Pi_raw_c {Q : mj_E → mj_H → Prop} {h : mj_H} {a l t s m : Nat} {p : pi_P} (P : Pi h a l t s m p) {f k e y kc ks : Nat} (hk : k < 4) (hy : y < 2 ^ 30) : ∀ (j c z : Nat), c + j = p.2.2.1 → mj_W M_Pi_rawSize Q (2, 43, none) kc ks 70 [some (.ref a), some (.int (nI f)), some (.int (nI k)), some (.int (nI (pi_rwC p k y j c z))), some (.int (nI e)), some (.int (nI y)), some (.int (nI p.2.2.1))] [] h → mj_W M_Pi_rawSize Q (2, 43, none) kc ks 23 [some (.ref a), some (.int (nI f)), some (.int (nI k)), some (.int (nI z)), some (.int (nI e)), some (.int (nI y)), some (.int (nI c))] [] h := by
  intro j
  induction j with
  | zero =>
    intro c z hc kk
    obtain ⟨h1, h2, h3, h4, h5, ⟨n1, n2, n3, n4, n5, n6⟩, w1, w2, w3⟩ := id P
    refine mj_iload d_Pi_rawSize_23 rfl ?_
    refine mj_aload_n d_Pi_rawSize_25 rfl ?_
    refine mj_get ok_Pi (k := 2) (by decide) fl_Pi_31 d_Pi_rawSize_26 h1 rfl ?_
    refine mj_icmp_ge (tgt := 70) d_Pi_rawSize_29 (by decide) (fun c_29 => ?_) (fun c_29 => ?_)
    · have e9 : c = p.2.2.1 := by omega
      subst e9
      exact kk
    · exact absurd (nI_le (by omega) (by omega)) c_29
  | succ j ih =>
    intro c z hc kk
    obtain ⟨h1, h2, h3, h4, h5, ⟨n1, n2, n3, n4, n5, n6⟩, w1, w2, w3⟩ := id P
    refine mj_iload d_Pi_rawSize_23 rfl ?_
    refine mj_aload_n d_Pi_rawSize_25 rfl ?_
    refine mj_get ok_Pi (k := 2) (by decide) fl_Pi_31 d_Pi_rawSize_26 h1 rfl ?_
    refine mj_icmp_ge (tgt := 70) d_Pi_rawSize_29 (by decide) (fun c_29 => ?_) (fun c_29 => ?_)
    · exact absurd c_29 (nI_ge (by omega) (by omega))
    · refine mj_aload_n d_Pi_rawSize_32 rfl ?_
      refine mj_iload d_Pi_rawSize_33 rfl ?_
      refine mj_iload d_Pi_rawSize_35 rfl ?_
      refine mj_cV (S := []) (S1 := [.int (if p.2.2.2.2.2.1 c = 1 ∨ y % 2 = 0 then 1 else 0)]) (c_Pi_isOnStep P (c := c) (y := y) (by omega) (by omega)) d_Pi_rawSize_37 cw_Pi_isOnStep ml_Pi_40 im_Pi_isOnStep se_Pi_isOnStep rfl h1 (by decide) rfl (Nat.le_of_ble_eq_true rfl) rfl rfl ?_
      refine mj_if_eq (tgt := 64) d_Pi_rawSize_40 (by decide) (fun c_40 => ?_) (fun c_40 => ?_)
      · obtain ⟨v1, e_v1⟩ : ∃ q_ : Int32, q_ = (nI c) + 1 := ⟨_, rfl⟩
        refine mj_iinc (x := (nI c)) (v := v1) (L' := [some (.ref a), some (.int (nI f)), some (.int (nI k)), some (.int (nI z)), some (.int (nI e)), some (.int (nI y)), some (.int v1)]) d_Pi_rawSize_64 rfl (by rw [e_v1]; rfl) (by decide) rfl rfl ?_
        refine mj_goto (tgt := 23) d_Pi_rawSize_67 (by decide) ?_
        rw [e_v1, nI_1]
        have g1 : ¬ (p.2.2.2.2.2.1 c = 1 ∨ y % 2 = 0) := fun q => by rw [if_pos q] at c_40; exact absurd c_40 (by decide)
        refine ih (c + 1) z (by omega) ?_
        rw [show pi_rwC p k y (j + 1) c z = pi_rwC p k y j (c + 1) z by rw [pi_rwC, if_neg g1]] at kk
        exact kk
      · have g1 : p.2.2.2.2.2.1 c = 1 ∨ y % 2 = 0 := Decidable.byContradiction (fun q => c_40 (by rw [if_neg q]))
        refine mj_iload_n d_Pi_rawSize_43 rfl ?_
        refine mj_aload_n d_Pi_rawSize_44 rfl ?_
        refine mj_iload d_Pi_rawSize_45 rfl ?_
        refine mj_cV (S := [.int (nI z)]) (S1 := [.int (nI (pi_on p c p.1)), .int (nI z)]) (c_Pi_columns P (c := c) (by omega)) d_Pi_rawSize_47 cw_Pi_columns ml_Pi_58 im_Pi_columns se_Pi_columns rfl h1 (by decide) rfl (Nat.le_of_ble_eq_true rfl) rfl rfl ?_
        refine mj_aload_n d_Pi_rawSize_50 rfl ?_
        refine mj_get ok_Pi (k := 4) (by decide) fl_Pi_15 d_Pi_rawSize_51 h1 rfl ?_
        refine mj_iload d_Pi_rawSize_54 rfl ?_
        refine mj_iald d_Pi_rawSize_56 h3 (vp_in_nI (by omega) (by decide)) ?_
        refine mj_iload_n d_Pi_rawSize_57 rfl ?_
        refine mj_cSN (S := [.int (nI (pi_on p c p.1)), .int (nI z)]) (S1 := [.int (rf_bytes ((p.2.2.2.2.1 ((nI c) : Int32).toNatClampNeg)) (nI k)), .int (nI (pi_on p c p.1)), .int (nI z)]) (c_RF_bytesOfSample _ _) d_Pi_rawSize_58 cw_RF_bytesOfSample mn_Pi_80 st_RF_bytesOfSample (by decide) rfl (Nat.le_of_ble_eq_true rfl) rfl rfl ?_
        refine mj_imul d_Pi_rawSize_61 ?_
        refine mj_iadd d_Pi_rawSize_62 ?_
        refine mj_topi (fun v2 e_v2 => ?_)
        refine mj_istore_n (L' := [some (.ref a), some (.int (nI f)), some (.int (nI k)), some (.int v2), some (.int (nI e)), some (.int (nI y)), some (.int (nI c))]) d_Pi_rawSize_63 (by decide) rfl rfl ?_
        obtain ⟨v3, e_v3⟩ : ∃ q_ : Int32, q_ = (nI c) + 1 := ⟨_, rfl⟩
        refine mj_iinc (x := (nI c)) (v := v3) (L' := [some (.ref a), some (.int (nI f)), some (.int (nI k)), some (.int v2), some (.int (nI e)), some (.int (nI y)), some (.int v3)]) d_Pi_rawSize_64 rfl (by rw [e_v3]; rfl) (by decide) rfl rfl ?_
        refine mj_goto (tgt := 23) d_Pi_rawSize_67 (by decide) ?_
        rw [e_v3, nI_1]
        rw [nI_clamp (by omega), rf_bytes_by _ hk, pk_mul, nI_add] at e_v2
        rw [e_v2]
        refine ih (c + 1) _ (by omega) ?_
        rw [show pi_rwC p k y (j + 1) c z = pi_rwC p k y j (c + 1) (z + pi_on p c p.1 * rf_by (p.2.2.2.2.1 c) k) by rw [pi_rwC, if_pos g1]] at kk
        exact kk
set_option maxRecDepth 100000 in
set_option maxHeartbeats 4000000 in
theorem lp_Pi_raw_y {Q : mj_E → mj_H → Prop} {h : mj_H} {a l t s m : Nat} {p : pi_P} (P : Pi h a l t s m p) {f k e kc ks : Nat} (hk : k < 4) (he : e ≤ 8) : ∀ (j y z : Nat), y + j = e → mj_W M_Pi_rawSize Q (2, 43, none) kc ks 76 [some (.ref a), some (.int (nI f)), some (.int (nI k)), some (.int (nI (pi_rwY p k j y z))), some (.int (nI e)), some (.int (nI e)), none] [] h → mj_W M_Pi_rawSize Q (2, 43, none) kc ks 13 [some (.ref a), some (.int (nI f)), some (.int (nI k)), some (.int (nI z)), some (.int (nI e)), some (.int (nI y)), none] [] h := by
  intro j
  induction j with
  | zero =>
    intro y z hy kk
    obtain ⟨h1, h2, h3, h4, h5, ⟨n1, n2, n3, n4, n5, n6⟩, w1, w2, w3⟩ := id P
    refine mj_iload d_Pi_rawSize_13 rfl ?_
    refine mj_iload d_Pi_rawSize_15 rfl ?_
    refine mj_icmp_ge (tgt := 76) d_Pi_rawSize_17 (by decide) (fun c_17 => ?_) (fun c_17 => ?_)
    · have e9 : y = e := by omega
      subst e9
      exact kk
    · exact absurd (nI_le (by omega) (by omega)) c_17
  | succ j ih =>
    intro y z hy kk
    obtain ⟨h1, h2, h3, h4, h5, ⟨n1, n2, n3, n4, n5, n6⟩, w1, w2, w3⟩ := id P
    refine mj_iload d_Pi_rawSize_13 rfl ?_
    refine mj_iload d_Pi_rawSize_15 rfl ?_
    refine mj_icmp_ge (tgt := 76) d_Pi_rawSize_17 (by decide) (fun c_17 => ?_) (fun c_17 => ?_)
    · exact absurd c_17 (nI_ge (by omega) (by omega))
    · refine mj_iconst (v := 0) d_Pi_rawSize_20 (by decide) ?_
      refine mj_istore (L' := [some (.ref a), some (.int (nI f)), some (.int (nI k)), some (.int (nI z)), some (.int (nI e)), some (.int (nI y)), some (.int 0)]) d_Pi_rawSize_21 (by decide) rfl rfl ?_
      refine lp_Pi_raw_c P hk (by omega) p.2.2.1 0 z (by omega) ?_
      obtain ⟨v1, e_v1⟩ : ∃ q_ : Int32, q_ = (nI y) + 1 := ⟨_, rfl⟩
      refine mj_iinc (x := (nI y)) (v := v1) (L' := [some (.ref a), some (.int (nI f)), some (.int (nI k)), some (.int (nI (pi_rwC p k y p.2.2.1 0 z))), some (.int (nI e)), some (.int v1), some (.int (nI p.2.2.1))]) d_Pi_rawSize_70 rfl (by rw [e_v1]; rfl) (by decide) rfl rfl ?_
      refine mj_goto (tgt := 13) d_Pi_rawSize_73 (by decide) ?_
      refine mj_fg 6 (L' := [some (.ref a), some (.int (nI f)), some (.int (nI k)), some (.int (nI (pi_rwC p k y p.2.2.1 0 z))), some (.int (nI e)), some (.int v1), none]) rfl ?_
      rw [e_v1, nI_1]
      exact ih (y + 1) _ (by omega) kk
set_option maxRecDepth 100000 in
set_option maxHeartbeats 4000000 in
theorem c_Pi_rawSize {h : mj_H} {a l t s m : Nat} {p : pi_P} (P : Pi h a l t s m p) {y k : Nat} (hy : y ≤ pi_end p y k) (hk : k < 4) : mj_Met M_Pi_rawSize (2, 43, none) 0 0 [.ref a, .int (nI y), .int (nI k)] h (mj_q (some (.int (nI (pi_raw p y k)))) h) := by
  have hy8 := pi_end_le p y k
  obtain ⟨h1, h2, h3, h4, h5, ⟨n1, n2, n3, n4, n5, n6⟩, w1, w2, w3⟩ := id P
  refine mj_enter (r := 4) rfl rfl (by decide) rfl ?_
  show mj_W M_Pi_rawSize _ _ _ _ 0 [some (.ref a), some (.int (nI y)), some (.int (nI k)), none, none, none, none] [] h
  refine mj_iconst (v := 0) d_Pi_rawSize_0 (by decide) ?_
  refine mj_istore_n (L' := [some (.ref a), some (.int (nI y)), some (.int (nI k)), some (.int 0), none, none, none]) d_Pi_rawSize_1 (by decide) rfl rfl ?_
  refine mj_aload_n d_Pi_rawSize_2 rfl ?_
  refine mj_iload_n d_Pi_rawSize_3 rfl ?_
  refine mj_iload_n d_Pi_rawSize_4 rfl ?_
  refine mj_cV (S := []) (S1 := [.int (nI (pi_end p y k))]) (c_Pi_endOfChunk P (y := y) (by omega) hk) d_Pi_rawSize_5 cw_Pi_endOfChunk ml_Pi_77 im_Pi_endOfChunk se_Pi_endOfChunk rfl h1 (by decide) rfl (Nat.le_of_ble_eq_true rfl) rfl rfl ?_
  refine mj_istore (L' := [some (.ref a), some (.int (nI y)), some (.int (nI k)), some (.int 0), some (.int (nI (pi_end p y k))), none, none]) d_Pi_rawSize_8 (by decide) rfl rfl ?_
  refine mj_iload_n d_Pi_rawSize_10 rfl ?_
  refine mj_istore (L' := [some (.ref a), some (.int (nI y)), some (.int (nI k)), some (.int 0), some (.int (nI (pi_end p y k))), some (.int (nI y)), none]) d_Pi_rawSize_11 (by decide) rfl rfl ?_
  have e8 := pi_end_le p y k
  refine lp_Pi_raw_y P (f := y) hk (e := pi_end p y k) (by omega) (pi_end p y k - y) y 0 (by omega) ?_
  refine mj_iload_n d_Pi_rawSize_76 rfl ?_
  exact mj_iret rfl d_Pi_rawSize_77 ⟨rfl, rfl⟩
