def tf_x (row : Nat) : Nat → Nat → (Nat → Int32) × by_B → (Nat → Int32) × by_B
  | 0, _, x => x
  | j + 1, i, x => tf_x row j (i + 1) (upd x.1 (8 * row + i) ((by_next 2 0 x.2 0).1 &&& 65535), (by_next 2 0 x.2 0).2)
def tf_y (nx : Nat) : Nat → Nat → (Nat → Int32) × by_B → (Nat → Int32) × by_B
  | 0, _, x => x
  | j + 1, row, x => tf_y nx j (row + 1) (tf_x row nx 0 x)
theorem tf_x_in (row : Nat) : ∀ (j i : Nat) (f : Nat → Int32) (r : by_B), r.1 ≤ 384 → r.2.1 ≤ r.1 → (tf_x row j i (f, r)).2.1 ≤ 384 ∧ (tf_x row j i (f, r)).2.2.1 ≤ (tf_x row j i (f, r)).2.1
  | 0, _, _, _, h, g => ⟨h, g⟩
  | j + 1, i, f, r, h, g => by
    rw [tf_x]
    exact tf_x_in row j (i + 1) _ _ (by rw [(by_next_le _ _ _ _).1]; exact h) (by_next_cu _ _ _ _ g)
theorem tf_y_in (nx : Nat) : ∀ (j row : Nat) (f : Nat → Int32) (r : by_B), r.1 ≤ 384 → r.2.1 ≤ r.1 → (tf_y nx j row (f, r)).2.1 ≤ 384 ∧ (tf_y nx j row (f, r)).2.2.1 ≤ (tf_y nx j row (f, r)).2.1
  | 0, _, _, _, h, g => ⟨h, g⟩
  | j + 1, row, f, r, h, g => by
    rw [tf_y]
    have q := tf_x_in row nx 0 f r h g
    exact tf_y_in nx j (row + 1) _ _ q.1 q.2
def tg_x (f : Nat → Int32) (c y sh sv row : Nat) : Nat → Nat → pi_P → pi_P
  | 0, _, p => p
  | j + 1, i, p => tg_x f c y sh sv row j (i + 1) (pi_put p c (i * sv) (y + row * sv) (p.2.2.2.2.2.2 (64 * c + 8 * (y + row * sv) + i * sv) ||| (f (8 * row + i) <<< (nI sh &&& 31))))
def tg_y (f : Nat → Int32) (c y sh sv nx : Nat) : Nat → Nat → pi_P → pi_P
  | 0, _, p => p
  | j + 1, row, p => tg_y f c y sh sv nx j (row + 1) (tg_x f c y sh sv row nx 0 p)
theorem tg_x_sm (f : Nat → Int32) (c y sh sv row : Nat) : ∀ (j i : Nat) (p : pi_P), pi_sm p (tg_x f c y sh sv row j i p)
  | 0, _, _ => .rfl
  | j + 1, i, p => by rw [tg_x]; exact pi_sm.put.trans (tg_x_sm f c y sh sv row j (i + 1) _)
theorem tg_y_sm (f : Nat → Int32) (c y sh sv nx : Nat) : ∀ (j row : Nat) (p : pi_P), pi_sm p (tg_y f c y sh sv nx j row p)
  | 0, _, _ => .rfl
  | j + 1, row, p => by rw [tg_y]; exact (tg_x_sm _ _ _ _ _ _ _ _ _).trans (tg_y_sm f c y sh sv nx j (row + 1) _)
theorem tb_sw {h : mj_H} {f : Nat → Int32} {r : by_B} : wv_up (by_up h 4 5 384 r) 12 f = tb_up h f r := by
  unfold tb_up by_up wv_up
  rw [List.set_comm _ _ (show (5 : Nat) ≠ 12 by decide), List.set_comm _ _ (show (4 : Nat) ≠ 12 by decide)]
set_option maxRecDepth 100000 in
set_option maxHeartbeats 4000000 in
theorem lp_Co_takeTable_fx {Q : mj_E → mj_H → Prop} {a l t s m : Nat} {p : pi_P} {c y sh nx ny sv kc ks : Nat} (hnx : nx ≤ 8) (hny : ny ≤ 4) {row : Nat} (hrow : row < ny) : ∀ (j i : Nat) (f : Nat → Int32) (r : by_B) (h : mj_H), Ct h r f a l t s m p → r.2.1 ≤ r.1 → i + j = nx → mj_W M_Co_takeTable Q (2, 52, none) kc ks 75 [some (.ref 3), some (.ref a), some (.int (nI c)), some (.int (nI y)), some (.int (nI sh)), some (.int (nI nx)), some (.int (nI ny)), some (.int (nI sv)), some (.int (nI row)), none, none] [] (tb_up h (tf_x row j i (f, r)).1 (tf_x row j i (f, r)).2) → mj_W M_Co_takeTable Q (2, 52, none) kc ks 43 [some (.ref 3), some (.ref a), some (.int (nI c)), some (.int (nI y)), some (.int (nI sh)), some (.int (nI nx)), some (.int (nI ny)), some (.int (nI sv)), some (.int (nI row)), some (.int (nI i)), none] [] h := by
  intro j
  induction j with
  | zero =>
    intro i f r h C hcu hk kk
    obtain ⟨⟨c0, ⟨b1, b2, b3, b4⟩, ⟨h1, h2, h3, h4, h5, ⟨n1, n2, n3, n4, n5, n6⟩, w1, w2, w3⟩, ⟨z1, z2, z3, z4, z5⟩, hok⟩, ⟨wa, wb⟩⟩ := id C
    refine mj_iload d_Co_takeTable_43 rfl ?_
    refine mj_iload d_Co_takeTable_45 rfl ?_
    refine mj_icmp_ge (tgt := 75) d_Co_takeTable_47 (by decide) (fun c_47 => ?_) (fun c_47 => ?_)
    · refine mj_fg 9 (L' := [some (.ref 3), some (.ref a), some (.int (nI c)), some (.int (nI y)), some (.int (nI sh)), some (.int (nI nx)), some (.int (nI ny)), some (.int (nI sv)), some (.int (nI row)), none, none]) rfl ?_
      rw [show tf_x row 0 i (f, r) = (f, r) from rfl, C.idn] at kk
      exact kk
    · exact absurd (nI_le (by omega) (by omega)) c_47
  | succ j ih =>
    intro i f r h C hcu hk kk
    obtain ⟨⟨c0, ⟨b1, b2, b3, b4⟩, ⟨h1, h2, h3, h4, h5, ⟨n1, n2, n3, n4, n5, n6⟩, w1, w2, w3⟩, ⟨z1, z2, z3, z4, z5⟩, hok⟩, ⟨wa, wb⟩⟩ := id C
    refine mj_iload d_Co_takeTable_43 rfl ?_
    refine mj_iload d_Co_takeTable_45 rfl ?_
    refine mj_icmp_ge (tgt := 75) d_Co_takeTable_47 (by decide) (fun c_47 => ?_) (fun c_47 => ?_)
    · exact absurd c_47 (nI_ge (by omega) (by omega))
    · refine mj_aload_n d_Co_takeTable_50 rfl ?_
      refine mj_get ok_Co (k := 3) (by decide) fl_Co_33 d_Co_takeTable_51 c0 rfl ?_
      refine mj_iload d_Co_takeTable_54 rfl ?_
      refine mj_iload d_Co_takeTable_56 rfl ?_
      refine mj_aload_n d_Co_takeTable_58 rfl ?_
      refine mj_get ok_Co (k := 0) (by decide) fl_Co_14 d_Co_takeTable_59 c0 rfl ?_
      refine mj_iconst (v := 2) d_Co_takeTable_62 (by decide) ?_
      refine mj_cV (S := [.int (nI row), .int (nI i), .ref 11]) (S1 := [.int (by_next 2 0 r 0).1, .int (nI row), .int (nI i), .ref 11]) (c_By_nextNumber C.1.2.1 hcu 2 (by decide)) d_Co_takeTable_63 cw_By_nextNumber ml_Co_117 im_By_nextNumber se_By_nextNumber rfl b1 (by decide) rfl (Nat.le_of_ble_eq_true rfl) rfl rfl ?_
      have hr1 : (by_next 2 0 r 0).2.1 ≤ 384 := by rw [(by_next_le _ _ _ _).1]; exact b3
      have C1 := C.up (r' := (by_next 2 0 r 0).2) hr1
      have g1 := C1.2.1
      refine mj_cV (S := []) (S1 := []) (c_Wv_put C1.2 (x := i) (y := row) (by omega) (by omega) _) d_Co_takeTable_66 cw_Wv_put ml_Co_132 im_Wv_put se_Wv_put rfl g1 (by decide) rfl (Nat.le_of_ble_eq_true rfl) rfl rfl ?_
      rw [tb_sw]
      obtain ⟨v1, e_v1⟩ : ∃ q_ : Int32, q_ = (nI i) + 1 := ⟨_, rfl⟩
      refine mj_iinc (x := (nI i)) (v := v1) (L' := [some (.ref 3), some (.ref a), some (.int (nI c)), some (.int (nI y)), some (.int (nI sh)), some (.int (nI nx)), some (.int (nI ny)), some (.int (nI sv)), some (.int (nI row)), some (.int v1), none]) d_Co_takeTable_69 rfl (by rw [e_v1]; rfl) (by decide) rfl rfl ?_
      refine mj_goto (tgt := 43) d_Co_takeTable_72 (by decide) ?_
      rw [e_v1, nI_1]
      refine ih (i + 1) _ _ _ (C.tb hr1) (by_next_cu _ _ _ _ hcu) (by omega) ?_
      rw [tb_uu]
      exact kk
set_option maxRecDepth 100000 in
set_option maxHeartbeats 4000000 in
theorem lp_Co_takeTable_fy {Q : mj_E → mj_H → Prop} {a l t s m : Nat} {p : pi_P} {c y sh nx ny sv kc ks : Nat} (hnx : nx ≤ 8) (hny : ny ≤ 4) : ∀ (j row : Nat) (f : Nat → Int32) (r : by_B) (h : mj_H), Ct h r f a l t s m p → r.2.1 ≤ r.1 → row + j = ny → mj_W M_Co_takeTable Q (2, 52, none) kc ks 81 [some (.ref 3), some (.ref a), some (.int (nI c)), some (.int (nI y)), some (.int (nI sh)), some (.int (nI nx)), some (.int (nI ny)), some (.int (nI sv)), none, none, none] [] (tb_up h (tf_y nx j row (f, r)).1 (tf_y nx j row (f, r)).2) → mj_W M_Co_takeTable Q (2, 52, none) kc ks 33 [some (.ref 3), some (.ref a), some (.int (nI c)), some (.int (nI y)), some (.int (nI sh)), some (.int (nI nx)), some (.int (nI ny)), some (.int (nI sv)), some (.int (nI row)), none, none] [] h := by
  intro j
  induction j with
  | zero =>
    intro row f r h C hcu hk kk
    obtain ⟨⟨c0, ⟨b1, b2, b3, b4⟩, ⟨h1, h2, h3, h4, h5, ⟨n1, n2, n3, n4, n5, n6⟩, w1, w2, w3⟩, ⟨z1, z2, z3, z4, z5⟩, hok⟩, ⟨wa, wb⟩⟩ := id C
    refine mj_iload d_Co_takeTable_33 rfl ?_
    refine mj_iload d_Co_takeTable_35 rfl ?_
    refine mj_icmp_ge (tgt := 81) d_Co_takeTable_37 (by decide) (fun c_37 => ?_) (fun c_37 => ?_)
    · refine mj_fg 8 (L' := [some (.ref 3), some (.ref a), some (.int (nI c)), some (.int (nI y)), some (.int (nI sh)), some (.int (nI nx)), some (.int (nI ny)), some (.int (nI sv)), none, none, none]) rfl ?_
      rw [show tf_y nx 0 row (f, r) = (f, r) from rfl, C.idn] at kk
      exact kk
    · exact absurd (nI_le (by omega) (by omega)) c_37
  | succ j ih =>
    intro row f r h C hcu hk kk
    obtain ⟨⟨c0, ⟨b1, b2, b3, b4⟩, ⟨h1, h2, h3, h4, h5, ⟨n1, n2, n3, n4, n5, n6⟩, w1, w2, w3⟩, ⟨z1, z2, z3, z4, z5⟩, hok⟩, ⟨wa, wb⟩⟩ := id C
    refine mj_iload d_Co_takeTable_33 rfl ?_
    refine mj_iload d_Co_takeTable_35 rfl ?_
    refine mj_icmp_ge (tgt := 81) d_Co_takeTable_37 (by decide) (fun c_37 => ?_) (fun c_37 => ?_)
    · exact absurd c_37 (nI_ge (by omega) (by omega))
    · refine mj_iconst (v := 0) d_Co_takeTable_40 (by decide) ?_
      refine mj_istore (L' := [some (.ref 3), some (.ref a), some (.int (nI c)), some (.int (nI y)), some (.int (nI sh)), some (.int (nI nx)), some (.int (nI ny)), some (.int (nI sv)), some (.int (nI row)), some (.int 0), none]) d_Co_takeTable_41 (by decide) rfl rfl ?_
      refine lp_Co_takeTable_fx hnx hny (by omega) nx 0 f r h C hcu (by omega) ?_
      obtain ⟨v1, e_v1⟩ : ∃ q_ : Int32, q_ = (nI row) + 1 := ⟨_, rfl⟩
      refine mj_iinc (x := (nI row)) (v := v1) (L' := [some (.ref 3), some (.ref a), some (.int (nI c)), some (.int (nI y)), some (.int (nI sh)), some (.int (nI nx)), some (.int (nI ny)), some (.int (nI sv)), some (.int v1), none, none]) d_Co_takeTable_75 rfl (by rw [e_v1]; rfl) (by decide) rfl rfl ?_
      refine mj_goto (tgt := 33) d_Co_takeTable_78 (by decide) ?_
      rw [e_v1, nI_1]
      have ti := tf_x_in row nx 0 f r b3 hcu
      refine ih (row + 1) _ _ _ (C.tb ti.1) ti.2 (by omega) ?_
      rw [tb_uu]
      exact kk
set_option maxRecDepth 100000 in
set_option maxHeartbeats 4000000 in
theorem lp_Co_takeTable_gx {Q : mj_E → mj_H → Prop} {a l t s m : Nat} {r : by_B} {f : Nat → Int32} {c y sh nx ny sv kc ks : Nat} {row : Nat} (hrow : row < ny) : ∀ (j i : Nat) (p : pi_P) (h : mj_H), Ct h r f a l t s m p → nx = pi_nx p c → ny = pi_ny p c y → sv = pi_st p c → c < p.2.2.1 → y ≤ pi_end p y 3 → i + j = nx → mj_W M_Co_takeTable Q (2, 52, none) kc ks 166 [some (.ref 3), some (.ref a), some (.int (nI c)), some (.int (nI y)), some (.int (nI sh)), some (.int (nI nx)), some (.int (nI ny)), some (.int (nI sv)), some (.int (nI row)), none, none] [] (pi_up h a l t s m (tg_x f c y sh sv row j i p)) → mj_W M_Co_takeTable Q (2, 52, none) kc ks 105 [some (.ref 3), some (.ref a), some (.int (nI c)), some (.int (nI y)), some (.int (nI sh)), some (.int (nI nx)), some (.int (nI ny)), some (.int (nI sv)), some (.int (nI row)), some (.int (nI i)), none] [] h := by
  intro j
  induction j with
  | zero =>
    intro i p h C hx hn hv hc hy hk kk
    obtain ⟨⟨c0, ⟨b1, b2, b3, b4⟩, ⟨h1, h2, h3, h4, h5, ⟨n1, n2, n3, n4, n5, n6⟩, w1, w2, w3⟩, ⟨z1, z2, z3, z4, z5⟩, hok⟩, ⟨wa, wb⟩⟩ := id C
    have hnx := pi_nx_le p c w1
    have hny := pi_ny_le p c y
    have hst := pi_st_in p c
    refine mj_iload d_Co_takeTable_105 rfl ?_
    refine mj_iload d_Co_takeTable_107 rfl ?_
    refine mj_icmp_ge (tgt := 166) d_Co_takeTable_109 (by decide) (fun c_109 => ?_) (fun c_109 => ?_)
    · refine mj_fg 9 (L' := [some (.ref 3), some (.ref a), some (.int (nI c)), some (.int (nI y)), some (.int (nI sh)), some (.int (nI nx)), some (.int (nI ny)), some (.int (nI sv)), some (.int (nI row)), none, none]) rfl ?_
      rw [show tg_x f c y sh sv row 0 i p = p from rfl, C.1.2.2.1.idn] at kk
      exact kk
    · exact absurd (nI_le (by omega) (by omega)) c_109
  | succ j ih =>
    intro i p h C hx hn hv hc hy hk kk
    obtain ⟨⟨c0, ⟨b1, b2, b3, b4⟩, ⟨h1, h2, h3, h4, h5, ⟨n1, n2, n3, n4, n5, n6⟩, w1, w2, w3⟩, ⟨z1, z2, z3, z4, z5⟩, hok⟩, ⟨wa, wb⟩⟩ := id C
    have hnx := pi_nx_le p c w1
    have hny := pi_ny_le p c y
    have hst := pi_st_in p c
    refine mj_iload d_Co_takeTable_105 rfl ?_
    refine mj_iload d_Co_takeTable_107 rfl ?_
    refine mj_icmp_ge (tgt := 166) d_Co_takeTable_109 (by decide) (fun c_109 => ?_) (fun c_109 => ?_)
    · exact absurd c_109 (nI_ge (by omega) (by omega))
    · have hi : i * sv < p.1 := by rw [hv]; exact pi_st_lt (show i < pi_on p c p.1 by unfold pi_nx at hx; omega)
      have hr : y + row * sv < p.2.1 := by rw [hv]; exact pi_ny_lt hy (by omega)
      have hsv : 1 ≤ sv ∧ sv ≤ 2 := by omega
      refine mj_iload_n d_Co_takeTable_112 rfl ?_
      refine mj_iload d_Co_takeTable_113 rfl ?_
      refine mj_iload d_Co_takeTable_115 rfl ?_
      refine mj_imul d_Co_takeTable_117 ?_
      refine mj_iadd d_Co_takeTable_118 ?_
      refine mj_topi (fun v1 e_v1 => ?_)
      refine mj_istore (L' := [some (.ref 3), some (.ref a), some (.int (nI c)), some (.int (nI y)), some (.int (nI sh)), some (.int (nI nx)), some (.int (nI ny)), some (.int (nI sv)), some (.int (nI row)), some (.int (nI i)), some (.int v1)]) d_Co_takeTable_119 (by decide) rfl rfl ?_
      rw [e_v1, pk_mul, nI_add]
      refine mj_aload_n d_Co_takeTable_121 rfl ?_
      refine mj_iload_n d_Co_takeTable_122 rfl ?_
      refine mj_iload d_Co_takeTable_123 rfl ?_
      refine mj_iload d_Co_takeTable_125 rfl ?_
      refine mj_imul d_Co_takeTable_127 ?_
      refine mj_iload d_Co_takeTable_128 rfl ?_
      refine mj_aload_n d_Co_takeTable_130 rfl ?_
      refine mj_iload_n d_Co_takeTable_131 rfl ?_
      refine mj_iload d_Co_takeTable_132 rfl ?_
      refine mj_iload d_Co_takeTable_134 rfl ?_
      refine mj_imul d_Co_takeTable_136 ?_
      refine mj_iload d_Co_takeTable_137 rfl ?_
      rw [pk_mul]
      refine mj_cV (S := [.int (nI (y + row * sv)), .int (nI (i * sv)), .int (nI c), .ref a]) (S1 := [.int (p.2.2.2.2.2.2 (64 * c + 8 * (y + row * sv) + i * sv)), .int (nI (y + row * sv)), .int (nI (i * sv)), .int (nI c), .ref a]) (c_Pi_at C.1.2.2.1 (c := c) (x := i * sv) (y := y + row * sv) (by omega) (by omega) (by omega)) d_Co_takeTable_139 cw_Pi_at ml_Co_101 im_Pi_at se_Pi_at rfl h1 (by decide) rfl (Nat.le_of_ble_eq_true rfl) rfl rfl ?_
      refine mj_aload_n d_Co_takeTable_142 rfl ?_
      refine mj_get ok_Co (k := 3) (by decide) fl_Co_33 d_Co_takeTable_143 c0 rfl ?_
      refine mj_iload d_Co_takeTable_146 rfl ?_
      refine mj_iload d_Co_takeTable_148 rfl ?_
      refine mj_cV (S := [.int (p.2.2.2.2.2.2 (64 * c + 8 * (y + row * sv) + i * sv)), .int (nI (y + row * sv)), .int (nI (i * sv)), .int (nI c), .ref a]) (S1 := [.int (f (8 * row + i)), .int (p.2.2.2.2.2.2 (64 * c + 8 * (y + row * sv) + i * sv)), .int (nI (y + row * sv)), .int (nI (i * sv)), .int (nI c), .ref a]) (c_Wv_at C.2 (x := i) (y := row) (by omega) (by omega)) d_Co_takeTable_150 cw_Wv_at ml_Co_138 im_Wv_at se_Wv_at rfl wa (by decide) rfl (Nat.le_of_ble_eq_true rfl) rfl rfl ?_
      refine mj_iload d_Co_takeTable_153 rfl ?_
      refine mj_ishl d_Co_takeTable_155 ?_
      refine mj_ior d_Co_takeTable_156 ?_
      refine mj_cV (S := []) (S1 := []) (c_Pi_put C.1.2.2.1 (c := c) (x := i * sv) (y := y + row * sv) (by omega) (by omega) (by omega) (p.2.2.2.2.2.2 (64 * c + 8 * (y + row * sv) + i * sv) ||| (f (8 * row + i) <<< (nI sh &&& 31)))) d_Co_takeTable_157 cw_Pi_put ml_Co_121 im_Pi_put se_Pi_put rfl h1 (by decide) rfl (Nat.le_of_ble_eq_true rfl) rfl rfl ?_
      obtain ⟨v2, e_v2⟩ : ∃ q_ : Int32, q_ = (nI i) + 1 := ⟨_, rfl⟩
      refine mj_iinc (x := (nI i)) (v := v2) (L' := [some (.ref 3), some (.ref a), some (.int (nI c)), some (.int (nI y)), some (.int (nI sh)), some (.int (nI nx)), some (.int (nI ny)), some (.int (nI sv)), some (.int (nI row)), some (.int v2), some (.int (nI (y + row * sv)))]) d_Co_takeTable_160 rfl (by rw [e_v2]; rfl) (by decide) rfl rfl ?_
      refine mj_goto (tgt := 105) d_Co_takeTable_163 (by decide) ?_
      rw [e_v2, nI_1]
      refine mj_fg 10 (L' := [some (.ref 3), some (.ref a), some (.int (nI c)), some (.int (nI y)), some (.int (nI sh)), some (.int (nI nx)), some (.int (nI ny)), some (.int (nI sv)), some (.int (nI row)), some (.int (nI (i + 1))), none]) rfl ?_
      refine ih (i + 1) (pi_put p c (i * sv) (y + row * sv) (p.2.2.2.2.2.2 (64 * c + 8 * (y + row * sv) + i * sv) ||| (f (8 * row + i) <<< (nI sh &&& 31)))) _ (C.pi (show p.1 ≤ 8 ∧ p.2.1 ≤ 8 ∧ p.2.2.1 ≤ 3 from ⟨w1, w2, w3⟩) hok) hx hn hv hc hy (by omega) ?_
      rw [C.1.2.2.1.upup (p1 := (pi_put p c (i * sv) (y + row * sv) (p.2.2.2.2.2.2 (64 * c + 8 * (y + row * sv) + i * sv) ||| (f (8 * row + i) <<< (nI sh &&& 31))))) ⟨w1, w2, w3⟩ ((tg_x_sm f c y sh sv row j (i + 1) (pi_put p c (i * sv) (y + row * sv) (p.2.2.2.2.2.2 (64 * c + 8 * (y + row * sv) + i * sv) ||| (f (8 * row + i) <<< (nI sh &&& 31))))).bd (show p.1 ≤ 8 ∧ p.2.1 ≤ 8 ∧ p.2.2.1 ≤ 3 from ⟨w1, w2, w3⟩))]
      exact kk
set_option maxRecDepth 100000 in
set_option maxHeartbeats 4000000 in
theorem lp_Co_takeTable_gy {Q : mj_E → mj_H → Prop} {a l t s m : Nat} {r : by_B} {f : Nat → Int32} {c y sh nx ny sv kc ks : Nat} : ∀ (j row : Nat) (p : pi_P) (h : mj_H), Ct h r f a l t s m p → nx = pi_nx p c → ny = pi_ny p c y → sv = pi_st p c → c < p.2.2.1 → y ≤ pi_end p y 3 → row + j = ny → mj_W M_Co_takeTable Q (2, 52, none) kc ks 172 [some (.ref 3), some (.ref a), some (.int (nI c)), some (.int (nI y)), some (.int (nI sh)), some (.int (nI nx)), some (.int (nI ny)), some (.int (nI sv)), none, none, none] [] (pi_up h a l t s m (tg_y f c y sh sv nx j row p)) → mj_W M_Co_takeTable Q (2, 52, none) kc ks 95 [some (.ref 3), some (.ref a), some (.int (nI c)), some (.int (nI y)), some (.int (nI sh)), some (.int (nI nx)), some (.int (nI ny)), some (.int (nI sv)), some (.int (nI row)), none, none] [] h := by
  intro j
  induction j with
  | zero =>
    intro row p h C hx hn hv hc hy hk kk
    obtain ⟨⟨c0, ⟨b1, b2, b3, b4⟩, ⟨h1, h2, h3, h4, h5, ⟨n1, n2, n3, n4, n5, n6⟩, w1, w2, w3⟩, ⟨z1, z2, z3, z4, z5⟩, hok⟩, ⟨wa, wb⟩⟩ := id C
    have hnx := pi_nx_le p c w1
    have hny := pi_ny_le p c y
    have hst := pi_st_in p c
    refine mj_iload d_Co_takeTable_95 rfl ?_
    refine mj_iload d_Co_takeTable_97 rfl ?_
    refine mj_icmp_ge (tgt := 172) d_Co_takeTable_99 (by decide) (fun c_99 => ?_) (fun c_99 => ?_)
    · refine mj_fg 8 (L' := [some (.ref 3), some (.ref a), some (.int (nI c)), some (.int (nI y)), some (.int (nI sh)), some (.int (nI nx)), some (.int (nI ny)), some (.int (nI sv)), none, none, none]) rfl ?_
      rw [show tg_y f c y sh sv nx 0 row p = p from rfl, C.1.2.2.1.idn] at kk
      exact kk
    · exact absurd (nI_le (by omega) (by omega)) c_99
  | succ j ih =>
    intro row p h C hx hn hv hc hy hk kk
    obtain ⟨⟨c0, ⟨b1, b2, b3, b4⟩, ⟨h1, h2, h3, h4, h5, ⟨n1, n2, n3, n4, n5, n6⟩, w1, w2, w3⟩, ⟨z1, z2, z3, z4, z5⟩, hok⟩, ⟨wa, wb⟩⟩ := id C
    have hnx := pi_nx_le p c w1
    have hny := pi_ny_le p c y
    have hst := pi_st_in p c
    refine mj_iload d_Co_takeTable_95 rfl ?_
    refine mj_iload d_Co_takeTable_97 rfl ?_
    refine mj_icmp_ge (tgt := 172) d_Co_takeTable_99 (by decide) (fun c_99 => ?_) (fun c_99 => ?_)
    · exact absurd c_99 (nI_ge (by omega) (by omega))
    · refine mj_iconst (v := 0) d_Co_takeTable_102 (by decide) ?_
      refine mj_istore (L' := [some (.ref 3), some (.ref a), some (.int (nI c)), some (.int (nI y)), some (.int (nI sh)), some (.int (nI nx)), some (.int (nI ny)), some (.int (nI sv)), some (.int (nI row)), some (.int 0), none]) d_Co_takeTable_103 (by decide) rfl rfl ?_
      refine lp_Co_takeTable_gx (by omega) nx 0 p h C hx hn hv hc hy (by omega) ?_
      obtain ⟨v1, e_v1⟩ : ∃ q_ : Int32, q_ = (nI row) + 1 := ⟨_, rfl⟩
      refine mj_iinc (x := (nI row)) (v := v1) (L' := [some (.ref 3), some (.ref a), some (.int (nI c)), some (.int (nI y)), some (.int (nI sh)), some (.int (nI nx)), some (.int (nI ny)), some (.int (nI sv)), some (.int v1), none, none]) d_Co_takeTable_166 rfl (by rw [e_v1]; rfl) (by decide) rfl rfl ?_
      refine mj_goto (tgt := 95) d_Co_takeTable_169 (by decide) ?_
      rw [e_v1, nI_1]
      have es := tg_x_sm f c y sh sv row nx 0 p
      refine ih (row + 1) _ _ (C.pi (es.bd ⟨w1, w2, w3⟩) (es.ok hok)) (hx.trans (es.nx c).symm) (hn.trans (es.ny c y).symm) (hv.trans (es.st c).symm) (by rw [es.2.2.1]; exact hc) (by rw [es.en]; exact hy) (by omega) ?_
      rw [C.1.2.2.1.upup (es.bd ⟨w1, w2, w3⟩) ((es.trans (tg_y_sm f c y sh sv nx j (row + 1) _)).bd ⟨w1, w2, w3⟩)]
      exact kk
def tt_x (p : pi_P) (c y : Nat) (f : Nat → Int32) (r : by_B) : (Nat → Int32) × by_B := tf_y (pi_nx p c) (pi_ny p c y) 0 (f, r)
def tt_f (p : pi_P) (c y : Nat) (f : Nat → Int32) (r : by_B) : Nat → Int32 := wv_bwd (pi_nx p c) (pi_ny p c y) (tt_x p c y f r).1
def tt_r (p : pi_P) (c y : Nat) (f : Nat → Int32) (r : by_B) : by_B := (tt_x p c y f r).2
def tt_p (p : pi_P) (c y sh : Nat) (f : Nat → Int32) (r : by_B) : pi_P := tg_y (tt_f p c y f r) c y sh (pi_st p c) (pi_nx p c) (pi_ny p c y) 0 p
theorem tt_in (p : pi_P) (c y sh : Nat) (f : Nat → Int32) {r : by_B} (h1 : r.1 ≤ 384) (h2 : r.2.1 ≤ r.1) : tk_in r p (tt_r p c y f r, tt_p p c y sh f r) := ⟨(tf_y_in _ _ _ _ _ h1 h2).1, (tf_y_in _ _ _ _ _ h1 h2).2, tg_y_sm _ _ _ _ _ _ _ _ _⟩
set_option maxRecDepth 100000 in
set_option maxHeartbeats 4000000 in
theorem c_Co_takeTable {h : mj_H} {r : by_B} {f : Nat → Int32} {a l t s m : Nat} {p : pi_P} (C : Ct h r f a l t s m p) (hcu : r.2.1 ≤ r.1) {c y sh : Nat} (hc : c < p.2.2.1) (hy : y ≤ pi_end p y 3) : mj_Met M_Co_takeTable (2, 52, none) 0 0 [.ref 3, .ref a, .int (nI c), .int (nI y), .int (nI sh)] h (mj_q none (tk_up h a l t s m (tt_f p c y f r) (tt_r p c y f r) (tt_p p c y sh f r))) := by
  obtain ⟨⟨c0, ⟨b1, b2, b3, b4⟩, ⟨h1, h2, h3, h4, h5, ⟨n1, n2, n3, n4, n5, n6⟩, w1, w2, w3⟩, ⟨z1, z2, z3, z4, z5⟩, hok⟩, ⟨wa, wb⟩⟩ := id C
  have hnx := pi_nx_le p c w1
  have hny := pi_ny_le p c y
  have hst := pi_st_in p c
  have hye := pi_end_le p y 3
  have ti := tf_y_in (pi_nx p c) (pi_ny p c y) 0 f r b3 hcu
  refine mj_enter (r := 6) rfl rfl (by decide) rfl ?_
  show mj_W M_Co_takeTable _ _ _ _ 0 [some (.ref 3), some (.ref a), some (.int (nI c)), some (.int (nI y)), some (.int (nI sh)), none, none, none, none, none, none] [] h
  refine mj_aload_n d_Co_takeTable_0 rfl ?_
  refine mj_iload_n d_Co_takeTable_1 rfl ?_
  refine mj_cV (S := []) (S1 := [.int (nI (pi_nx p c))]) (c_Pi_columns C.1.2.2.1 (c := c) (by omega)) d_Co_takeTable_2 cw_Pi_columns ml_Co_94 im_Pi_columns se_Pi_columns rfl h1 (by decide) rfl (Nat.le_of_ble_eq_true rfl) rfl rfl ?_
  refine mj_istore (L' := [some (.ref 3), some (.ref a), some (.int (nI c)), some (.int (nI y)), some (.int (nI sh)), some (.int (nI (pi_nx p c))), none, none, none, none, none]) d_Co_takeTable_5 (by decide) rfl rfl ?_
  refine mj_aload_n d_Co_takeTable_7 rfl ?_
  refine mj_iload_n d_Co_takeTable_8 rfl ?_
  refine mj_aload_n d_Co_takeTable_9 rfl ?_
  refine mj_iload_n d_Co_takeTable_10 rfl ?_
  refine mj_iconst (v := 3) d_Co_takeTable_11 (by decide) ?_
  refine mj_cV (S := [.int (nI c), .ref a]) (S1 := [.int (nI (pi_end p y 3)), .int (nI c), .ref a]) (c_Pi_endOfChunk C.1.2.2.1 (y := y) (k := 3) (by omega) (by decide)) d_Co_takeTable_12 cw_Pi_endOfChunk ml_Co_70 im_Pi_endOfChunk se_Pi_endOfChunk rfl h1 (by decide) rfl (Nat.le_of_ble_eq_true rfl) rfl rfl ?_
  refine mj_iload_n d_Co_takeTable_15 rfl ?_
  refine mj_isub d_Co_takeTable_16 ?_
  rw [pk_sub hy]
  refine mj_cV (S := []) (S1 := [.int (nI (pi_ny p c y))]) (c_Pi_onStep C.1.2.2.1 (c := c) (by omega) (by omega)) d_Co_takeTable_17 cw_Pi_onStep ml_Co_129 im_Pi_onStep se_Pi_onStep rfl h1 (by decide) rfl (Nat.le_of_ble_eq_true rfl) rfl rfl ?_
  refine mj_istore (L' := [some (.ref 3), some (.ref a), some (.int (nI c)), some (.int (nI y)), some (.int (nI sh)), some (.int (nI (pi_nx p c))), some (.int (nI (pi_ny p c y))), none, none, none, none]) d_Co_takeTable_20 (by decide) rfl rfl ?_
  refine mj_aload_n d_Co_takeTable_22 rfl ?_
  refine mj_get ok_Pi (k := 5) (by decide) fl_Co_98 d_Co_takeTable_23 h1 rfl ?_
  refine mj_iload_n d_Co_takeTable_26 rfl ?_
  refine mj_iald d_Co_takeTable_27 h4 (vp_in_nI (by omega) (by decide)) ?_
  rw [nI_clamp (by omega), hok.st hc]
  refine mj_istore (L' := [some (.ref 3), some (.ref a), some (.int (nI c)), some (.int (nI y)), some (.int (nI sh)), some (.int (nI (pi_nx p c))), some (.int (nI (pi_ny p c y))), some (.int (nI (pi_st p c))), none, none, none]) d_Co_takeTable_28 (by decide) rfl rfl ?_
  refine mj_iconst (v := 0) d_Co_takeTable_30 (by decide) ?_
  refine mj_istore (L' := [some (.ref 3), some (.ref a), some (.int (nI c)), some (.int (nI y)), some (.int (nI sh)), some (.int (nI (pi_nx p c))), some (.int (nI (pi_ny p c y))), some (.int (nI (pi_st p c))), some (.int 0), none, none]) d_Co_takeTable_31 (by decide) rfl rfl ?_
  refine lp_Co_takeTable_fy hnx hny (pi_ny p c y) 0 f r h C hcu (by omega) ?_
  have C1 := C.tb (f' := (tt_x p c y f r).1) (r' := (tt_x p c y f r).2) ti.1
  obtain ⟨⟨d0, -⟩, ⟨wa1, wb1⟩⟩ := id C1
  refine mj_aload_n d_Co_takeTable_81 rfl ?_
  refine mj_get ok_Co (k := 3) (by decide) fl_Co_33 d_Co_takeTable_82 d0 rfl ?_
  refine mj_iload d_Co_takeTable_85 rfl ?_
  refine mj_iload d_Co_takeTable_87 rfl ?_
  refine mj_cV (S := []) (S1 := []) (c_Wv_backward C1.2 hnx hny) d_Co_takeTable_89 cw_Wv_backward ml_Co_143 im_Wv_backward se_Wv_backward rfl wa1 (by decide) rfl (Nat.le_of_ble_eq_true rfl) rfl rfl ?_
  refine mj_iconst (v := 0) d_Co_takeTable_92 (by decide) ?_
  refine mj_istore (L' := [some (.ref 3), some (.ref a), some (.int (nI c)), some (.int (nI y)), some (.int (nI sh)), some (.int (nI (pi_nx p c))), some (.int (nI (pi_ny p c y))), some (.int (nI (pi_st p c))), some (.int 0), none, none]) d_Co_takeTable_93 (by decide) rfl rfl ?_
  have C2 : Ct (wv_up (tb_up h (tt_x p c y f r).1 (tt_x p c y f r).2) 12 (tt_f p c y f r)) (tt_r p c y f r) (tt_f p c y f r) a l t s m p := C1.wv
  refine lp_Co_takeTable_gy (pi_ny p c y) 0 p _ C2 rfl rfl rfl hc hy (by omega) ?_
  refine mj_vret rfl d_Co_takeTable_172 ⟨rfl, ?_⟩
  unfold tk_up
  have ee : wv_up (tb_up h (tt_x p c y f r).1 (tt_x p c y f r).2) 12 (tt_f p c y f r) = tb_up h (tt_f p c y f r) (tt_r p c y f r) := by rw [← tb_sw, wv_upup, tb_sw]; rfl
  exact congrArg (fun z_ => pi_up z_ a l t s m (tt_p p c y sh f r)) ee
