def Ct (h : mj_H) (r : by_B) (f : Nat → Int32) (a l t s m : Nat) (p : pi_P) : Prop := Cp h r a l t s m p ∧ Wv h 11 12 f
theorem Ct.up {h : mj_H} {r r' : by_B} {f : Nat → Int32} {a l t s m : Nat} {p : pi_P} (C : Ct h r f a l t s m p) (hr : r'.1 ≤ 384) : Ct (by_up h 4 5 384 r') r' f a l t s m p := by
  refine ⟨C.1.up hr, C.1.2.1.keep C.2.1 (by decide), ?_⟩
  unfold by_up
  rw [List.getElem?_set_ne (by decide), List.getElem?_set_ne (by decide)]
  exact C.2.2
theorem wv_fr {h : mj_H} {f : Nat → Int32} {i : Nat} (hi : i ≠ 12) : (wv_up h 12 f)[i]? = h[i]? := by unfold wv_up; rw [List.getElem?_set_ne (Ne.symm hi)]
theorem Ct.wv {h : mj_H} {r : by_B} {f f' : Nat → Int32} {a l t s m : Nat} {p : pi_P} (C : Ct h r f a l t s m p) : Ct (wv_up h 12 f') r f' a l t s m p := by
  obtain ⟨⟨c0, ⟨b1, b2, b3, b4⟩, ⟨h1, h2, h3, h4, h5, h6⟩, z, hok⟩, W⟩ := C
  refine ⟨⟨by rw [wv_fr (by decide)]; exact c0, ⟨by rw [wv_fr (by decide)]; exact b1, by rw [wv_fr (by decide)]; exact b2, b3, b4⟩, ⟨by rw [wv_fr (by omega)]; exact h1, by rw [wv_fr (by omega)]; exact h2, by rw [wv_fr (by omega)]; exact h3, by rw [wv_fr (by omega)]; exact h4, by rw [wv_fr (by omega)]; exact h5, h6⟩, z, hok⟩, W.up⟩
/-- the table and the raw bytes -/
def tb_up (h : mj_H) (f : Nat → Int32) (r : by_B) : mj_H := by_up (wv_up h 12 f) 4 5 384 r
theorem tb_uu {h : mj_H} {f1 f2 : Nat → Int32} {r1 r2 : by_B} : tb_up (tb_up h f1 r1) f2 r2 = tb_up h f2 r2 := by
  unfold tb_up by_up wv_up
  rw [List.set_comm _ _ (show (5 : Nat) ≠ 12 by decide), List.set_comm _ _ (show (4 : Nat) ≠ 12 by decide), List.set_set, List.set_comm _ _ (show (5 : Nat) ≠ 4 by decide), List.set_set, List.set_set]
theorem Ct.tb {h : mj_H} {r r' : by_B} {f f' : Nat → Int32} {a l t s m : Nat} {p : pi_P} (C : Ct h r f a l t s m p) (hr : r'.1 ≤ 384) : Ct (tb_up h f' r') r' f' a l t s m p := C.wv.up hr
theorem Ct.idn {h : mj_H} {r : by_B} {f : Nat → Int32} {a l t s m : Nat} {p : pi_P} (C : Ct h r f a l t s m p) : tb_up h f r = h := by
  unfold tb_up
  rw [C.2.idn, C.1.2.1.idn]
/-- filling the table: along a row, row by row -/
def tb_fx (p : pi_P) (c y sh row : Nat) : Nat → Nat → (Nat → Int32) → Nat → Int32
  | 0, _, f => f
  | j + 1, i, f => tb_fx p c y sh row j (i + 1) (upd f (8 * row + i) (mj_ush (p.2.2.2.2.2.2 (64 * c + 8 * (y + row * pi_st p c) + i * pi_st p c)) (nI sh) &&& 65535))
def tb_fy (p : pi_P) (c y sh nx : Nat) : Nat → Nat → (Nat → Int32) → Nat → Int32
  | 0, _, f => f
  | j + 1, row, f => tb_fy p c y sh nx j (row + 1) (tb_fx p c y sh row nx 0 f)
/-- writing the table out -/
def tb_gx (f : Nat → Int32) (row : Nat) : Nat → Nat → by_B → by_B
  | 0, _, r => r
  | j + 1, i, r => tb_gx f row j (i + 1) (by_addN 384 (f (8 * row + i)) 2 0 r)
def tb_gy (f : Nat → Int32) (nx : Nat) : Nat → Nat → by_B → by_B
  | 0, _, r => r
  | j + 1, row, r => tb_gy f nx j (row + 1) (tb_gx f row nx 0 r)
theorem tb_gx_le (f : Nat → Int32) (row : Nat) : ∀ (j i : Nat) (r : by_B), r.1 ≤ 384 → (tb_gx f row j i r).1 ≤ 384
  | 0, _, _, h => h
  | j + 1, i, r, h => tb_gx_le f row j (i + 1) _ (by_addN_le _ _ _ _ h)
theorem tb_gy_le (f : Nat → Int32) (nx : Nat) : ∀ (j row : Nat) (r : by_B), r.1 ≤ 384 → (tb_gy f nx j row r).1 ≤ 384
  | 0, _, _, h => h
  | j + 1, row, r, h => tb_gy_le f nx j (row + 1) _ (tb_gx_le _ _ _ _ _ h)
def pi_nx (p : pi_P) (c : Nat) : Nat := pi_on p c p.1
def pi_ny (p : pi_P) (c y : Nat) : Nat := pi_on p c (pi_end p y 3 - y)
theorem pi_nx_le (p : pi_P) (c : Nat) (h : p.1 ≤ 8) : pi_nx p c ≤ 8 := by unfold pi_nx pi_on; split <;> omega
theorem pi_ny_le (p : pi_P) (c y : Nat) : pi_ny p c y ≤ 4 := by
  have : pi_end p y 3 - y ≤ 4 := by unfold pi_end; have := rf_ln_le 3; split <;> omega
  unfold pi_ny pi_on; split <;> omega
theorem pi_ny_lt {p : pi_P} {c y row : Nat} (hy : y ≤ pi_end p y 3) (h : row < pi_ny p c y) : y + row * pi_st p c < p.2.1 := by
  have h1 := pi_st_lt h
  have h2 := pi_end_le p y 3
  omega
def tb_f (p : pi_P) (c y sh : Nat) (f : Nat → Int32) : Nat → Int32 := wv_fwd (pi_nx p c) (pi_ny p c y) (tb_fy p c y sh (pi_nx p c) (pi_ny p c y) 0 f)
def tb_r (p : pi_P) (c y sh : Nat) (f : Nat → Int32) (r : by_B) : by_B := tb_gy (tb_f p c y sh f) (pi_nx p c) (pi_ny p c y) 0 r
set_option maxRecDepth 100000 in
set_option maxHeartbeats 4000000 in
theorem lp_Co_putTable_fx {Q : mj_E → mj_H → Prop} {a l t s m : Nat} {p : pi_P} {c y sh kc ks : Nat} {r : by_B} (hc : c < p.2.2.1) (hy : y ≤ pi_end p y 3) {row : Nat} (hrow : row < pi_ny p c y) : ∀ (j i : Nat) (f : Nat → Int32) (h : mj_H), Ct h r f a l t s m p → i + j = pi_nx p c → mj_W M_Co_putTable Q (2, 52, none) kc ks 87 [some (.ref 3), some (.ref a), some (.int (nI c)), some (.int (nI y)), some (.int (nI sh)), some (.int (nI (pi_nx p c))), some (.int (nI (pi_ny p c y))), some (.int (nI (pi_st p c))), some (.int (nI row)), none] [] (wv_up h 12 (tb_fx p c y sh row j i f)) → mj_W M_Co_putTable Q (2, 52, none) kc ks 43 [some (.ref 3), some (.ref a), some (.int (nI c)), some (.int (nI y)), some (.int (nI sh)), some (.int (nI (pi_nx p c))), some (.int (nI (pi_ny p c y))), some (.int (nI (pi_st p c))), some (.int (nI row)), some (.int (nI i))] [] h := by
  intro j
  induction j with
  | zero =>
    intro i f h C hk kk
    obtain ⟨⟨c0, ⟨b1, b2, b3, b4⟩, ⟨h1, h2, h3, h4, h5, ⟨n1, n2, n3, n4, n5, n6⟩, w1, w2, w3⟩, ⟨z1, z2, z3, z4, z5⟩, hok⟩, ⟨wa, wb⟩⟩ := id C
    have hnx := pi_nx_le p c w1
    have hny := pi_ny_le p c y
    have hst := pi_st_in p c
    refine mj_iload d_Co_putTable_43 rfl ?_
    refine mj_iload d_Co_putTable_45 rfl ?_
    refine mj_icmp_ge (tgt := 87) d_Co_putTable_47 (by decide) (fun c_47 => ?_) (fun c_47 => ?_)
    · refine mj_fg 9 (L' := [some (.ref 3), some (.ref a), some (.int (nI c)), some (.int (nI y)), some (.int (nI sh)), some (.int (nI (pi_nx p c))), some (.int (nI (pi_ny p c y))), some (.int (nI (pi_st p c))), some (.int (nI row)), none]) rfl ?_
      rw [show tb_fx p c y sh row 0 i f = f from rfl, C.2.idn] at kk
      exact kk
    · exact absurd (nI_le (by omega) (by omega)) c_47
  | succ j ih =>
    intro i f h C hk kk
    obtain ⟨⟨c0, ⟨b1, b2, b3, b4⟩, ⟨h1, h2, h3, h4, h5, ⟨n1, n2, n3, n4, n5, n6⟩, w1, w2, w3⟩, ⟨z1, z2, z3, z4, z5⟩, hok⟩, ⟨wa, wb⟩⟩ := id C
    have hnx := pi_nx_le p c w1
    have hny := pi_ny_le p c y
    have hst := pi_st_in p c
    refine mj_iload d_Co_putTable_43 rfl ?_
    refine mj_iload d_Co_putTable_45 rfl ?_
    refine mj_icmp_ge (tgt := 87) d_Co_putTable_47 (by decide) (fun c_47 => ?_) (fun c_47 => ?_)
    · exact absurd c_47 (nI_ge (by omega) (by omega))
    · have hi : i * pi_st p c < p.1 := pi_st_lt (show i < pi_on p c p.1 by unfold pi_nx at hk; omega)
      have hr := pi_ny_lt hy hrow
      refine mj_aload_n d_Co_putTable_50 rfl ?_
      refine mj_get ok_Co (k := 3) (by decide) fl_Co_33 d_Co_putTable_51 c0 rfl ?_
      refine mj_iload d_Co_putTable_54 rfl ?_
      refine mj_iload d_Co_putTable_56 rfl ?_
      refine mj_aload_n d_Co_putTable_58 rfl ?_
      refine mj_iload_n d_Co_putTable_59 rfl ?_
      refine mj_iload d_Co_putTable_60 rfl ?_
      refine mj_iload d_Co_putTable_62 rfl ?_
      refine mj_imul d_Co_putTable_64 ?_
      refine mj_iload_n d_Co_putTable_65 rfl ?_
      refine mj_iload d_Co_putTable_66 rfl ?_
      refine mj_iload d_Co_putTable_68 rfl ?_
      refine mj_imul d_Co_putTable_70 ?_
      refine mj_iadd d_Co_putTable_71 ?_
      rw [pk_mul, pk_mul, nI_add]
      refine mj_cV (S := [.int (nI row), .int (nI i), .ref 11]) (S1 := [.int (p.2.2.2.2.2.2 (64 * c + 8 * (y + row * pi_st p c) + i * pi_st p c)), .int (nI row), .int (nI i), .ref 11]) (c_Pi_at C.1.2.2.1 (c := c) (x := i * pi_st p c) (y := y + row * pi_st p c) (by omega) (by omega) (by omega)) d_Co_putTable_72 cw_Pi_at ml_Co_101 im_Pi_at se_Pi_at rfl h1 (by decide) rfl (Nat.le_of_ble_eq_true rfl) rfl rfl ?_
      refine mj_iload d_Co_putTable_75 rfl ?_
      refine mj_iushr d_Co_putTable_77 rfl ?_
      refine mj_cV (S := []) (S1 := []) (c_Wv_put C.2 (x := i) (y := row) (by omega) (by omega) _) d_Co_putTable_78 cw_Wv_put ml_Co_132 im_Wv_put se_Wv_put rfl wa (by decide) rfl (Nat.le_of_ble_eq_true rfl) rfl rfl ?_
      obtain ⟨v1, e_v1⟩ : ∃ q_ : Int32, q_ = (nI i) + 1 := ⟨_, rfl⟩
      refine mj_iinc (x := (nI i)) (v := v1) (L' := [some (.ref 3), some (.ref a), some (.int (nI c)), some (.int (nI y)), some (.int (nI sh)), some (.int (nI (pi_nx p c))), some (.int (nI (pi_ny p c y))), some (.int (nI (pi_st p c))), some (.int (nI row)), some (.int v1)]) d_Co_putTable_81 rfl (by rw [e_v1]; rfl) (by decide) rfl rfl ?_
      refine mj_goto (tgt := 43) d_Co_putTable_84 (by decide) ?_
      rw [e_v1, nI_1]
      refine ih (i + 1) _ _ C.wv (by omega) ?_
      rw [wv_upup]
      exact kk
set_option maxRecDepth 100000 in
set_option maxHeartbeats 4000000 in
theorem lp_Co_putTable_fy {Q : mj_E → mj_H → Prop} {a l t s m : Nat} {p : pi_P} {c y sh kc ks : Nat} {r : by_B} (hc : c < p.2.2.1) (hy : y ≤ pi_end p y 3) : ∀ (j row : Nat) (f : Nat → Int32) (h : mj_H), Ct h r f a l t s m p → row + j = pi_ny p c y → mj_W M_Co_putTable Q (2, 52, none) kc ks 93 [some (.ref 3), some (.ref a), some (.int (nI c)), some (.int (nI y)), some (.int (nI sh)), some (.int (nI (pi_nx p c))), some (.int (nI (pi_ny p c y))), some (.int (nI (pi_st p c))), none, none] [] (wv_up h 12 (tb_fy p c y sh (pi_nx p c) j row f)) → mj_W M_Co_putTable Q (2, 52, none) kc ks 33 [some (.ref 3), some (.ref a), some (.int (nI c)), some (.int (nI y)), some (.int (nI sh)), some (.int (nI (pi_nx p c))), some (.int (nI (pi_ny p c y))), some (.int (nI (pi_st p c))), some (.int (nI row)), none] [] h := by
  intro j
  induction j with
  | zero =>
    intro row f h C hk kk
    obtain ⟨⟨c0, ⟨b1, b2, b3, b4⟩, ⟨h1, h2, h3, h4, h5, ⟨n1, n2, n3, n4, n5, n6⟩, w1, w2, w3⟩, ⟨z1, z2, z3, z4, z5⟩, hok⟩, ⟨wa, wb⟩⟩ := id C
    have hnx := pi_nx_le p c w1
    have hny := pi_ny_le p c y
    have hst := pi_st_in p c
    refine mj_iload d_Co_putTable_33 rfl ?_
    refine mj_iload d_Co_putTable_35 rfl ?_
    refine mj_icmp_ge (tgt := 93) d_Co_putTable_37 (by decide) (fun c_37 => ?_) (fun c_37 => ?_)
    · refine mj_fg 8 (L' := [some (.ref 3), some (.ref a), some (.int (nI c)), some (.int (nI y)), some (.int (nI sh)), some (.int (nI (pi_nx p c))), some (.int (nI (pi_ny p c y))), some (.int (nI (pi_st p c))), none, none]) rfl ?_
      rw [show tb_fy p c y sh (pi_nx p c) 0 row f = f from rfl, C.2.idn] at kk
      exact kk
    · exact absurd (nI_le (by omega) (by omega)) c_37
  | succ j ih =>
    intro row f h C hk kk
    obtain ⟨⟨c0, ⟨b1, b2, b3, b4⟩, ⟨h1, h2, h3, h4, h5, ⟨n1, n2, n3, n4, n5, n6⟩, w1, w2, w3⟩, ⟨z1, z2, z3, z4, z5⟩, hok⟩, ⟨wa, wb⟩⟩ := id C
    have hnx := pi_nx_le p c w1
    have hny := pi_ny_le p c y
    have hst := pi_st_in p c
    refine mj_iload d_Co_putTable_33 rfl ?_
    refine mj_iload d_Co_putTable_35 rfl ?_
    refine mj_icmp_ge (tgt := 93) d_Co_putTable_37 (by decide) (fun c_37 => ?_) (fun c_37 => ?_)
    · exact absurd c_37 (nI_ge (by omega) (by omega))
    · refine mj_iconst (v := 0) d_Co_putTable_40 (by decide) ?_
      refine mj_istore (L' := [some (.ref 3), some (.ref a), some (.int (nI c)), some (.int (nI y)), some (.int (nI sh)), some (.int (nI (pi_nx p c))), some (.int (nI (pi_ny p c y))), some (.int (nI (pi_st p c))), some (.int (nI row)), some (.int 0)]) d_Co_putTable_41 (by decide) rfl rfl ?_
      refine lp_Co_putTable_fx hc hy (by omega) (pi_nx p c) 0 f h C (by omega) ?_
      obtain ⟨v1, e_v1⟩ : ∃ q_ : Int32, q_ = (nI row) + 1 := ⟨_, rfl⟩
      refine mj_iinc (x := (nI row)) (v := v1) (L' := [some (.ref 3), some (.ref a), some (.int (nI c)), some (.int (nI y)), some (.int (nI sh)), some (.int (nI (pi_nx p c))), some (.int (nI (pi_ny p c y))), some (.int (nI (pi_st p c))), some (.int v1), none]) d_Co_putTable_87 rfl (by rw [e_v1]; rfl) (by decide) rfl rfl ?_
      refine mj_goto (tgt := 33) d_Co_putTable_90 (by decide) ?_
      rw [e_v1, nI_1]
      refine ih (row + 1) _ _ C.wv (by omega) ?_
      rw [wv_upup]
      exact kk
set_option maxRecDepth 100000 in
set_option maxHeartbeats 4000000 in
theorem lp_Co_putTable_gx {Q : mj_E → mj_H → Prop} {a l t s m : Nat} {p : pi_P} {c y sh kc ks : Nat} {f : Nat → Int32} {row : Nat} (hrow : row < pi_ny p c y) : ∀ (j i : Nat) (r : by_B) (h : mj_H), Ct h r f a l t s m p → i + j = pi_nx p c → mj_W M_Co_putTable Q (2, 52, none) kc ks 149 [some (.ref 3), some (.ref a), some (.int (nI c)), some (.int (nI y)), some (.int (nI sh)), some (.int (nI (pi_nx p c))), some (.int (nI (pi_ny p c y))), some (.int (nI (pi_st p c))), some (.int (nI row)), none] [] (by_up h 4 5 384 (tb_gx f row j i r)) → mj_W M_Co_putTable Q (2, 52, none) kc ks 117 [some (.ref 3), some (.ref a), some (.int (nI c)), some (.int (nI y)), some (.int (nI sh)), some (.int (nI (pi_nx p c))), some (.int (nI (pi_ny p c y))), some (.int (nI (pi_st p c))), some (.int (nI row)), some (.int (nI i))] [] h := by
  intro j
  induction j with
  | zero =>
    intro i r h C hk kk
    obtain ⟨⟨c0, ⟨b1, b2, b3, b4⟩, ⟨h1, h2, h3, h4, h5, ⟨n1, n2, n3, n4, n5, n6⟩, w1, w2, w3⟩, ⟨z1, z2, z3, z4, z5⟩, hok⟩, ⟨wa, wb⟩⟩ := id C
    have hnx := pi_nx_le p c w1
    have hny := pi_ny_le p c y
    have hst := pi_st_in p c
    refine mj_iload d_Co_putTable_117 rfl ?_
    refine mj_iload d_Co_putTable_119 rfl ?_
    refine mj_icmp_ge (tgt := 149) d_Co_putTable_121 (by decide) (fun c_121 => ?_) (fun c_121 => ?_)
    · refine mj_fg 9 (L' := [some (.ref 3), some (.ref a), some (.int (nI c)), some (.int (nI y)), some (.int (nI sh)), some (.int (nI (pi_nx p c))), some (.int (nI (pi_ny p c y))), some (.int (nI (pi_st p c))), some (.int (nI row)), none]) rfl ?_
      rw [show tb_gx f row 0 i r = r from rfl, C.1.2.1.idn] at kk
      exact kk
    · exact absurd (nI_le (by omega) (by omega)) c_121
  | succ j ih =>
    intro i r h C hk kk
    obtain ⟨⟨c0, ⟨b1, b2, b3, b4⟩, ⟨h1, h2, h3, h4, h5, ⟨n1, n2, n3, n4, n5, n6⟩, w1, w2, w3⟩, ⟨z1, z2, z3, z4, z5⟩, hok⟩, ⟨wa, wb⟩⟩ := id C
    have hnx := pi_nx_le p c w1
    have hny := pi_ny_le p c y
    have hst := pi_st_in p c
    refine mj_iload d_Co_putTable_117 rfl ?_
    refine mj_iload d_Co_putTable_119 rfl ?_
    refine mj_icmp_ge (tgt := 149) d_Co_putTable_121 (by decide) (fun c_121 => ?_) (fun c_121 => ?_)
    · exact absurd c_121 (nI_ge (by omega) (by omega))
    · refine mj_aload_n d_Co_putTable_124 rfl ?_
      refine mj_get ok_Co (k := 0) (by decide) fl_Co_14 d_Co_putTable_125 c0 rfl ?_
      refine mj_aload_n d_Co_putTable_128 rfl ?_
      refine mj_get ok_Co (k := 3) (by decide) fl_Co_33 d_Co_putTable_129 c0 rfl ?_
      refine mj_iload d_Co_putTable_132 rfl ?_
      refine mj_iload d_Co_putTable_134 rfl ?_
      refine mj_cV (S := [.ref 4]) (S1 := [.int (f (8 * row + i)), .ref 4]) (c_Wv_at C.2 (x := i) (y := row) (by omega) (by omega)) d_Co_putTable_136 cw_Wv_at ml_Co_138 im_Wv_at se_Wv_at rfl wa (by decide) rfl (Nat.le_of_ble_eq_true rfl) rfl rfl ?_
      refine mj_iconst (v := 2) d_Co_putTable_139 (by decide) ?_
      refine mj_cV (S := []) (S1 := []) (c_By_addNumber C.1.2.1 _ 2 (by decide)) d_Co_putTable_140 cw_By_addNumber ml_Co_110 im_By_addNumber se_By_addNumber rfl b1 (by decide) rfl (Nat.le_of_ble_eq_true rfl) rfl rfl ?_
      obtain ⟨v1, e_v1⟩ : ∃ q_ : Int32, q_ = (nI i) + 1 := ⟨_, rfl⟩
      refine mj_iinc (x := (nI i)) (v := v1) (L' := [some (.ref 3), some (.ref a), some (.int (nI c)), some (.int (nI y)), some (.int (nI sh)), some (.int (nI (pi_nx p c))), some (.int (nI (pi_ny p c y))), some (.int (nI (pi_st p c))), some (.int (nI row)), some (.int v1)]) d_Co_putTable_143 rfl (by rw [e_v1]; rfl) (by decide) rfl rfl ?_
      refine mj_goto (tgt := 117) d_Co_putTable_146 (by decide) ?_
      rw [e_v1, nI_1]
      refine ih (i + 1) _ _ (C.up (by_addN_le _ _ _ _ b3)) (by omega) ?_
      rw [C.1.2.1.upup]
      exact kk
set_option maxRecDepth 100000 in
set_option maxHeartbeats 4000000 in
theorem lp_Co_putTable_gy {Q : mj_E → mj_H → Prop} {a l t s m : Nat} {p : pi_P} {c y sh kc ks : Nat} {f : Nat → Int32} : ∀ (j row : Nat) (r : by_B) (h : mj_H), Ct h r f a l t s m p → row + j = pi_ny p c y → mj_W M_Co_putTable Q (2, 52, none) kc ks 155 [some (.ref 3), some (.ref a), some (.int (nI c)), some (.int (nI y)), some (.int (nI sh)), some (.int (nI (pi_nx p c))), some (.int (nI (pi_ny p c y))), some (.int (nI (pi_st p c))), none, none] [] (by_up h 4 5 384 (tb_gy f (pi_nx p c) j row r)) → mj_W M_Co_putTable Q (2, 52, none) kc ks 107 [some (.ref 3), some (.ref a), some (.int (nI c)), some (.int (nI y)), some (.int (nI sh)), some (.int (nI (pi_nx p c))), some (.int (nI (pi_ny p c y))), some (.int (nI (pi_st p c))), some (.int (nI row)), none] [] h := by
  intro j
  induction j with
  | zero =>
    intro row r h C hk kk
    obtain ⟨⟨c0, ⟨b1, b2, b3, b4⟩, ⟨h1, h2, h3, h4, h5, ⟨n1, n2, n3, n4, n5, n6⟩, w1, w2, w3⟩, ⟨z1, z2, z3, z4, z5⟩, hok⟩, ⟨wa, wb⟩⟩ := id C
    have hnx := pi_nx_le p c w1
    have hny := pi_ny_le p c y
    have hst := pi_st_in p c
    refine mj_iload d_Co_putTable_107 rfl ?_
    refine mj_iload d_Co_putTable_109 rfl ?_
    refine mj_icmp_ge (tgt := 155) d_Co_putTable_111 (by decide) (fun c_111 => ?_) (fun c_111 => ?_)
    · refine mj_fg 8 (L' := [some (.ref 3), some (.ref a), some (.int (nI c)), some (.int (nI y)), some (.int (nI sh)), some (.int (nI (pi_nx p c))), some (.int (nI (pi_ny p c y))), some (.int (nI (pi_st p c))), none, none]) rfl ?_
      rw [show tb_gy f (pi_nx p c) 0 row r = r from rfl, C.1.2.1.idn] at kk
      exact kk
    · exact absurd (nI_le (by omega) (by omega)) c_111
  | succ j ih =>
    intro row r h C hk kk
    obtain ⟨⟨c0, ⟨b1, b2, b3, b4⟩, ⟨h1, h2, h3, h4, h5, ⟨n1, n2, n3, n4, n5, n6⟩, w1, w2, w3⟩, ⟨z1, z2, z3, z4, z5⟩, hok⟩, ⟨wa, wb⟩⟩ := id C
    have hnx := pi_nx_le p c w1
    have hny := pi_ny_le p c y
    have hst := pi_st_in p c
    refine mj_iload d_Co_putTable_107 rfl ?_
    refine mj_iload d_Co_putTable_109 rfl ?_
    refine mj_icmp_ge (tgt := 155) d_Co_putTable_111 (by decide) (fun c_111 => ?_) (fun c_111 => ?_)
    · exact absurd c_111 (nI_ge (by omega) (by omega))
    · refine mj_iconst (v := 0) d_Co_putTable_114 (by decide) ?_
      refine mj_istore (L' := [some (.ref 3), some (.ref a), some (.int (nI c)), some (.int (nI y)), some (.int (nI sh)), some (.int (nI (pi_nx p c))), some (.int (nI (pi_ny p c y))), some (.int (nI (pi_st p c))), some (.int (nI row)), some (.int 0)]) d_Co_putTable_115 (by decide) rfl rfl ?_
      refine lp_Co_putTable_gx (by omega) (pi_nx p c) 0 r h C (by omega) ?_
      obtain ⟨v1, e_v1⟩ : ∃ q_ : Int32, q_ = (nI row) + 1 := ⟨_, rfl⟩
      refine mj_iinc (x := (nI row)) (v := v1) (L' := [some (.ref 3), some (.ref a), some (.int (nI c)), some (.int (nI y)), some (.int (nI sh)), some (.int (nI (pi_nx p c))), some (.int (nI (pi_ny p c y))), some (.int (nI (pi_st p c))), some (.int v1), none]) d_Co_putTable_149 rfl (by rw [e_v1]; rfl) (by decide) rfl rfl ?_
      refine mj_goto (tgt := 107) d_Co_putTable_152 (by decide) ?_
      rw [e_v1, nI_1]
      refine ih (row + 1) _ _ (C.up (tb_gx_le _ _ _ _ _ b3)) (by omega) ?_
      rw [C.1.2.1.upup]
      exact kk
set_option maxRecDepth 100000 in
set_option maxHeartbeats 4000000 in
theorem c_Co_putTable {h : mj_H} {r : by_B} {f : Nat → Int32} {a l t s m : Nat} {p : pi_P} (C : Ct h r f a l t s m p) {c y sh : Nat} (hc : c < p.2.2.1) (hy : y ≤ pi_end p y 3) : mj_Met M_Co_putTable (2, 52, none) 0 0 [.ref 3, .ref a, .int (nI c), .int (nI y), .int (nI sh)] h (mj_q none (tb_up h (tb_f p c y sh f) (tb_r p c y sh f r))) := by
  obtain ⟨⟨c0, ⟨b1, b2, b3, b4⟩, ⟨h1, h2, h3, h4, h5, ⟨n1, n2, n3, n4, n5, n6⟩, w1, w2, w3⟩, ⟨z1, z2, z3, z4, z5⟩, hok⟩, ⟨wa, wb⟩⟩ := id C
  have hnx := pi_nx_le p c w1
  have hny := pi_ny_le p c y
  have hst := pi_st_in p c
  have hye := pi_end_le p y 3
  refine mj_enter (r := 5) rfl rfl (by decide) rfl ?_
  show mj_W M_Co_putTable _ _ _ _ 0 [some (.ref 3), some (.ref a), some (.int (nI c)), some (.int (nI y)), some (.int (nI sh)), none, none, none, none, none] [] h
  refine mj_aload_n d_Co_putTable_0 rfl ?_
  refine mj_iload_n d_Co_putTable_1 rfl ?_
  refine mj_cV (S := []) (S1 := [.int (nI (pi_nx p c))]) (c_Pi_columns C.1.2.2.1 (c := c) (by omega)) d_Co_putTable_2 cw_Pi_columns ml_Co_94 im_Pi_columns se_Pi_columns rfl h1 (by decide) rfl (Nat.le_of_ble_eq_true rfl) rfl rfl ?_
  refine mj_istore (L' := [some (.ref 3), some (.ref a), some (.int (nI c)), some (.int (nI y)), some (.int (nI sh)), some (.int (nI (pi_nx p c))), none, none, none, none]) d_Co_putTable_5 (by decide) rfl rfl ?_
  refine mj_aload_n d_Co_putTable_7 rfl ?_
  refine mj_iload_n d_Co_putTable_8 rfl ?_
  refine mj_aload_n d_Co_putTable_9 rfl ?_
  refine mj_iload_n d_Co_putTable_10 rfl ?_
  refine mj_iconst (v := 3) d_Co_putTable_11 (by decide) ?_
  refine mj_cV (S := [.int (nI c), .ref a]) (S1 := [.int (nI (pi_end p y 3)), .int (nI c), .ref a]) (c_Pi_endOfChunk C.1.2.2.1 (y := y) (k := 3) (by omega) (by decide)) d_Co_putTable_12 cw_Pi_endOfChunk ml_Co_70 im_Pi_endOfChunk se_Pi_endOfChunk rfl h1 (by decide) rfl (Nat.le_of_ble_eq_true rfl) rfl rfl ?_
  refine mj_iload_n d_Co_putTable_15 rfl ?_
  refine mj_isub d_Co_putTable_16 ?_
  rw [pk_sub hy]
  refine mj_cV (S := []) (S1 := [.int (nI (pi_ny p c y))]) (c_Pi_onStep C.1.2.2.1 (c := c) (by omega) (by omega)) d_Co_putTable_17 cw_Pi_onStep ml_Co_129 im_Pi_onStep se_Pi_onStep rfl h1 (by decide) rfl (Nat.le_of_ble_eq_true rfl) rfl rfl ?_
  refine mj_istore (L' := [some (.ref 3), some (.ref a), some (.int (nI c)), some (.int (nI y)), some (.int (nI sh)), some (.int (nI (pi_nx p c))), some (.int (nI (pi_ny p c y))), none, none, none]) d_Co_putTable_20 (by decide) rfl rfl ?_
  refine mj_aload_n d_Co_putTable_22 rfl ?_
  refine mj_get ok_Pi (k := 5) (by decide) fl_Co_98 d_Co_putTable_23 h1 rfl ?_
  refine mj_iload_n d_Co_putTable_26 rfl ?_
  refine mj_iald d_Co_putTable_27 h4 (vp_in_nI (by omega) (by decide)) ?_
  rw [nI_clamp (by omega), hok.st hc]
  refine mj_istore (L' := [some (.ref 3), some (.ref a), some (.int (nI c)), some (.int (nI y)), some (.int (nI sh)), some (.int (nI (pi_nx p c))), some (.int (nI (pi_ny p c y))), some (.int (nI (pi_st p c))), none, none]) d_Co_putTable_28 (by decide) rfl rfl ?_
  refine mj_iconst (v := 0) d_Co_putTable_30 (by decide) ?_
  refine mj_istore (L' := [some (.ref 3), some (.ref a), some (.int (nI c)), some (.int (nI y)), some (.int (nI sh)), some (.int (nI (pi_nx p c))), some (.int (nI (pi_ny p c y))), some (.int (nI (pi_st p c))), some (.int 0), none]) d_Co_putTable_31 (by decide) rfl rfl ?_
  refine lp_Co_putTable_fy hc hy (pi_ny p c y) 0 f h C (by omega) ?_
  have C1 := C.wv (f' := tb_fy p c y sh (pi_nx p c) (pi_ny p c y) 0 f)
  obtain ⟨⟨d0, -⟩, ⟨wa1, wb1⟩⟩ := id C1
  refine mj_aload_n d_Co_putTable_93 rfl ?_
  refine mj_get ok_Co (k := 3) (by decide) fl_Co_33 d_Co_putTable_94 d0 rfl ?_
  refine mj_iload d_Co_putTable_97 rfl ?_
  refine mj_iload d_Co_putTable_99 rfl ?_
  refine mj_cV (S := []) (S1 := []) (c_Wv_forward C1.2 hnx hny) d_Co_putTable_101 cw_Wv_forward ml_Co_135 im_Wv_forward se_Wv_forward rfl wa1 (by decide) rfl (Nat.le_of_ble_eq_true rfl) rfl rfl ?_
  rw [wv_upup]
  refine mj_iconst (v := 0) d_Co_putTable_104 (by decide) ?_
  refine mj_istore (L' := [some (.ref 3), some (.ref a), some (.int (nI c)), some (.int (nI y)), some (.int (nI sh)), some (.int (nI (pi_nx p c))), some (.int (nI (pi_ny p c y))), some (.int (nI (pi_st p c))), some (.int 0), none]) d_Co_putTable_105 (by decide) rfl rfl ?_
  refine lp_Co_putTable_gy (pi_ny p c y) 0 r _ (C.wv (f' := tb_f p c y sh f)) (by omega) ?_
  exact mj_vret rfl d_Co_putTable_155 ⟨rfl, rfl⟩
