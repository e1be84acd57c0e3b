def tk_in (r : by_B) (p : pi_P) (x : by_B × pi_P) : Prop := x.1.1 ≤ 384 ∧ x.1.2.1 ≤ x.1.1 ∧ pi_sm p x.2
def tk_lnC (y k : Nat) (df : Int32) : Nat → Nat → by_B × pi_P → by_B × pi_P
  | 0, _, x => x
  | j + 1, c, x => tk_lnC y k df j (c + 1) (if x.2.2.2.2.2.2.1 c = 1 ∨ y % 2 = 0 then tk_ln c y k df (pi_on x.2 c x.2.1) 0 0 x.1 x.2 else x)
def tk_lnY (k : Nat) (df : Int32) : Nat → Nat → by_B × pi_P → by_B × pi_P
  | 0, _, x => x
  | j + 1, y, x => tk_lnY k df j (y + 1) (tk_lnC y k df x.2.2.2.1 0 x)
def tk_lns (y k : Nat) (df : Int32) (r : by_B) (p : pi_P) : by_B × pi_P := tk_lnY k df (pi_end p y k - y) y (r, p)
theorem tk_in0 {r : by_B} {p : pi_P} (h1 : r.1 ≤ 384) (h2 : r.2.1 ≤ r.1) : tk_in r p (r, p) := ⟨h1, h2, .rfl⟩
theorem tk_in.tr {r r1 : by_B} {p p1 : pi_P} {x : by_B × pi_P} (h : tk_in r p (r1, p1)) (g : tk_in r1 p1 x) : tk_in r p x := ⟨g.1, g.2.1, h.2.2.trans g.2.2⟩
theorem tk_lnC_in (y k : Nat) (df : Int32) : ∀ (j c : Nat) (r : by_B) (p : pi_P), r.1 ≤ 384 → r.2.1 ≤ r.1 → tk_in r p (tk_lnC y k df j c (r, p))
  | 0, _, _, _, h, g => tk_in0 h g
  | j + 1, c, r, p, h, g => by
    rw [tk_lnC]
    have q : tk_in r p (if p.2.2.2.2.2.1 c = 1 ∨ y % 2 = 0 then tk_ln c y k df (pi_on p c p.1) 0 0 r p else (r, p)) := by
      split
      · exact tk_ln_in _ _ _ _ _ _ _ _ _ h g
      · exact tk_in0 h g
    exact q.tr (tk_lnC_in y k df j (c + 1) _ _ q.1 q.2.1)
theorem tk_lnY_in (k : Nat) (df : Int32) : ∀ (j y : Nat) (r : by_B) (p : pi_P), r.1 ≤ 384 → r.2.1 ≤ r.1 → tk_in r p (tk_lnY k df j y (r, p))
  | 0, _, _, _, h, g => tk_in0 h g
  | j + 1, y, r, p, h, g => by
    rw [tk_lnY]
    have q : tk_in r p (tk_lnC y k df p.2.2.1 0 (r, p)) := tk_lnC_in _ _ _ _ _ _ _ h g
    exact q.tr (tk_lnY_in k df j (y + 1) _ _ q.1 q.2.1)
set_option maxRecDepth 100000 in
set_option maxHeartbeats 4000000 in
theorem lp_Co_takeLines_c {Q : mj_E → mj_H → Prop} {F : Nat → Int32} {a l t s m : Nat} {f k e y kc ks : Nat} {df : Int32} (hk : k < 4) (hy : y < 8) : ∀ (j c : Nat) (r : by_B) (p : pi_P) (h : mj_H), Ct h r F a l t s m p → r.2.1 ≤ r.1 → c + j = p.2.2.1 → mj_W M_Co_takeLines Q (3, 73, none) kc ks 59 [some (.ref 3), some (.ref a), some (.int (nI k)), some (.int (nI f)), some (.int df), some (.int (nI e)), some (.int (nI y)), none] [] (tk_up h a l t s m F (tk_lnC y k df j c (r, p)).1 (tk_lnC y k df j c (r, p)).2) → mj_W M_Co_takeLines Q (3, 73, none) kc ks 21 [some (.ref 3), some (.ref a), some (.int (nI k)), some (.int (nI f)), some (.int df), some (.int (nI e)), some (.int (nI y)), some (.int (nI c))] [] h := by
  intro j
  induction j with
  | zero =>
    intro c r p h C hcu hc kk
    obtain ⟨⟨c0, ⟨b1, b2, b3, b4⟩, ⟨h1, h2, h3, h4, h5, ⟨n1, n2, n3, n4, n5, n6⟩, w1, w2, w3⟩, ⟨z1, z2, z3, z4, z5⟩, hok⟩, ⟨wa, wb⟩⟩ := id C
    refine mj_iload d_Co_takeLines_21 rfl ?_
    refine mj_aload_n d_Co_takeLines_23 rfl ?_
    refine mj_get ok_Pi (k := 2) (by decide) fl_Co_76 d_Co_takeLines_24 h1 rfl ?_
    refine mj_icmp_ge (tgt := 59) d_Co_takeLines_27 (by decide) (fun c_27 => ?_) (fun c_27 => ?_)
    · refine mj_fg 7 (L' := [some (.ref 3), some (.ref a), some (.int (nI k)), some (.int (nI f)), some (.int df), some (.int (nI e)), some (.int (nI y)), none]) rfl ?_
      rw [show tk_lnC y k df 0 c (r, p) = (r, p) from rfl, C.tki] at kk
      exact kk
    · exact absurd (nI_le (by omega) (by omega)) c_27
  | succ j ih =>
    intro c r p h C hcu hc kk
    obtain ⟨⟨c0, ⟨b1, b2, b3, b4⟩, ⟨h1, h2, h3, h4, h5, ⟨n1, n2, n3, n4, n5, n6⟩, w1, w2, w3⟩, ⟨z1, z2, z3, z4, z5⟩, hok⟩, ⟨wa, wb⟩⟩ := id C
    refine mj_iload d_Co_takeLines_21 rfl ?_
    refine mj_aload_n d_Co_takeLines_23 rfl ?_
    refine mj_get ok_Pi (k := 2) (by decide) fl_Co_76 d_Co_takeLines_24 h1 rfl ?_
    refine mj_icmp_ge (tgt := 59) d_Co_takeLines_27 (by decide) (fun c_27 => ?_) (fun c_27 => ?_)
    · exact absurd c_27 (nI_ge (by omega) (by omega))
    · refine mj_aload_n d_Co_takeLines_30 rfl ?_
      refine mj_iload d_Co_takeLines_31 rfl ?_
      refine mj_iload d_Co_takeLines_33 rfl ?_
      refine mj_cV (S := []) (S1 := [.int (if p.2.2.2.2.2.1 c = 1 ∨ y % 2 = 0 then 1 else 0)]) (c_Pi_isOnStep C.1.2.2.1 (c := c) (y := y) (by omega) (by omega)) d_Co_takeLines_35 cw_Pi_isOnStep ml_Co_79 im_Pi_isOnStep se_Pi_isOnStep rfl h1 (by decide) rfl (Nat.le_of_ble_eq_true rfl) rfl rfl ?_
      refine mj_if_eq (tgt := 53) d_Co_takeLines_38 (by decide) (fun c_38 => ?_) (fun c_38 => ?_)
      · obtain ⟨v1, e_v1⟩ : ∃ q_ : Int32, q_ = (nI c) + 1 := ⟨_, rfl⟩
        refine mj_iinc (x := (nI c)) (v := v1) (L' := [some (.ref 3), some (.ref a), some (.int (nI k)), some (.int (nI f)), some (.int df), some (.int (nI e)), some (.int (nI y)), some (.int v1)]) d_Co_takeLines_53 rfl (by rw [e_v1]; rfl) (by decide) rfl rfl ?_
        refine mj_goto (tgt := 21) d_Co_takeLines_56 (by decide) ?_
        rw [e_v1, nI_1]
        have g1 : ¬ (p.2.2.2.2.2.1 c = 1 ∨ y % 2 = 0) := fun q => by rw [if_pos q] at c_38; exact absurd c_38 (by decide)
        rw [show tk_lnC y k df (j + 1) c (r, p) = tk_lnC y k df j (c + 1) (r, p) by rw [tk_lnC, if_neg g1]] at kk
        exact ih (c + 1) r p h C hcu (by omega) kk
      · have g1 : p.2.2.2.2.2.1 c = 1 ∨ y % 2 = 0 := Decidable.byContradiction (fun q => c_38 (by rw [if_neg q]))
        refine mj_aload_n d_Co_takeLines_41 rfl ?_
        refine mj_aload_n d_Co_takeLines_42 rfl ?_
        refine mj_iload d_Co_takeLines_43 rfl ?_
        refine mj_iload d_Co_takeLines_45 rfl ?_
        refine mj_iload_n d_Co_takeLines_47 rfl ?_
        refine mj_iload d_Co_takeLines_48 rfl ?_
        refine mj_cV (S := []) (S1 := []) (c_Co_takeLine C hcu (c := c) (y := y) (k := k) df (by omega) hy hk) d_Co_takeLines_50 cw_Co_takeLine ml_Co_114 im_Co_takeLine se_Co_takeLine rfl c0 (by decide) rfl (Nat.le_of_ble_eq_true rfl) rfl rfl ?_
        obtain ⟨v2, e_v2⟩ : ∃ q_ : Int32, q_ = (nI c) + 1 := ⟨_, rfl⟩
        refine mj_iinc (x := (nI c)) (v := v2) (L' := [some (.ref 3), some (.ref a), some (.int (nI k)), some (.int (nI f)), some (.int df), some (.int (nI e)), some (.int (nI y)), some (.int v2)]) d_Co_takeLines_53 rfl (by rw [e_v2]; rfl) (by decide) rfl rfl ?_
        refine mj_goto (tgt := 21) d_Co_takeLines_56 (by decide) ?_
        rw [e_v2, nI_1]
        rw [show tk_lnC y k df (j + 1) c (r, p) = tk_lnC y k df j (c + 1) (tk_ln c y k df (pi_on p c p.1) 0 0 r p) by rw [tk_lnC, if_pos g1]] at kk
        have ti := tk_ln_in c y k df (pi_on p c p.1) 0 0 r p b3 hcu
        refine ih (c + 1) (tk_ln c y k df (pi_on p c p.1) 0 0 r p).1 (tk_ln c y k df (pi_on p c p.1) 0 0 r p).2 _ (C.tk ti.1 ti.2.2) ti.2.1 (by rw [ti.2.2.2.2.1]; omega) ?_
        rw [C.tkk ti.2.2 (ti.2.2.trans (tk_lnC_in y k df j (c + 1) _ _ ti.1 ti.2.1).2.2)]
        exact kk
set_option maxRecDepth 100000 in
set_option maxHeartbeats 4000000 in
theorem lp_Co_takeLines_y {Q : mj_E → mj_H → Prop} {F : Nat → Int32} {a l t s m : Nat} {f k e kc ks : Nat} {df : Int32} (hk : k < 4) (he : e ≤ 8) : ∀ (j y : Nat) (r : by_B) (p : pi_P) (h : mj_H), Ct h r F a l t s m p → r.2.1 ≤ r.1 → y + j = e → mj_W M_Co_takeLines Q (3, 73, none) kc ks 65 [some (.ref 3), some (.ref a), some (.int (nI k)), some (.int (nI f)), some (.int df), some (.int (nI e)), none, none] [] (tk_up h a l t s m F (tk_lnY k df j y (r, p)).1 (tk_lnY k df j y (r, p)).2) → mj_W M_Co_takeLines Q (3, 73, none) kc ks 11 [some (.ref 3), some (.ref a), some (.int (nI k)), some (.int (nI f)), some (.int df), some (.int (nI e)), some (.int (nI y)), none] [] h := by
  intro j
  induction j with
  | zero =>
    intro y r p h C hcu hy kk
    obtain ⟨⟨c0, ⟨b1, b2, b3, b4⟩, ⟨h1, h2, h3, h4, h5, ⟨n1, n2, n3, n4, n5, n6⟩, w1, w2, w3⟩, ⟨z1, z2, z3, z4, z5⟩, hok⟩, ⟨wa, wb⟩⟩ := id C
    refine mj_iload d_Co_takeLines_11 rfl ?_
    refine mj_iload d_Co_takeLines_13 rfl ?_
    refine mj_icmp_ge (tgt := 65) d_Co_takeLines_15 (by decide) (fun c_15 => ?_) (fun c_15 => ?_)
    · refine mj_fg 6 (L' := [some (.ref 3), some (.ref a), some (.int (nI k)), some (.int (nI f)), some (.int df), some (.int (nI e)), none, none]) rfl ?_
      rw [show tk_lnY k df 0 y (r, p) = (r, p) from rfl, C.tki] at kk
      exact kk
    · exact absurd (nI_le (by omega) (by omega)) c_15
  | succ j ih =>
    intro y r p h C hcu hy kk
    obtain ⟨⟨c0, ⟨b1, b2, b3, b4⟩, ⟨h1, h2, h3, h4, h5, ⟨n1, n2, n3, n4, n5, n6⟩, w1, w2, w3⟩, ⟨z1, z2, z3, z4, z5⟩, hok⟩, ⟨wa, wb⟩⟩ := id C
    refine mj_iload d_Co_takeLines_11 rfl ?_
    refine mj_iload d_Co_takeLines_13 rfl ?_
    refine mj_icmp_ge (tgt := 65) d_Co_takeLines_15 (by decide) (fun c_15 => ?_) (fun c_15 => ?_)
    · exact absurd c_15 (nI_ge (by omega) (by omega))
    · refine mj_iconst (v := 0) d_Co_takeLines_18 (by decide) ?_
      refine mj_istore (L' := [some (.ref 3), some (.ref a), some (.int (nI k)), some (.int (nI f)), some (.int df), some (.int (nI e)), some (.int (nI y)), some (.int 0)]) d_Co_takeLines_19 (by decide) rfl rfl ?_
      refine lp_Co_takeLines_c hk (by omega) p.2.2.1 0 r p h C hcu (by omega) ?_
      obtain ⟨v1, e_v1⟩ : ∃ q_ : Int32, q_ = (nI y) + 1 := ⟨_, rfl⟩
      refine mj_iinc (x := (nI y)) (v := v1) (L' := [some (.ref 3), some (.ref a), some (.int (nI k)), some (.int (nI f)), some (.int df), some (.int (nI e)), some (.int v1), none]) d_Co_takeLines_59 rfl (by rw [e_v1]; rfl) (by decide) rfl rfl ?_
      refine mj_goto (tgt := 11) d_Co_takeLines_62 (by decide) ?_
      rw [e_v1, nI_1]
      have ti := tk_lnC_in y k df p.2.2.1 0 r p b3 hcu
      refine ih (y + 1) (tk_lnC y k df p.2.2.1 0 (r, p)).1 (tk_lnC y k df p.2.2.1 0 (r, p)).2 _ (C.tk ti.1 ti.2.2) ti.2.1 (by omega) ?_
      rw [C.tkk ti.2.2 (ti.2.2.trans (tk_lnY_in k df j (y + 1) _ _ ti.1 ti.2.1).2.2)]
      exact kk
set_option maxRecDepth 100000 in
set_option maxHeartbeats 4000000 in
theorem c_Co_takeLines {h : mj_H} {r : by_B} {f : Nat → Int32} {a l t s m : Nat} {p : pi_P} (C : Ct h r f a l t s m p) (hcu : r.2.1 ≤ r.1) {y k : Nat} (df : Int32) (hy : y ≤ pi_end p y k) (hk : k < 4) : mj_Met M_Co_takeLines (3, 73, none) 0 0 [.ref 3, .ref a, .int (nI k), .int (nI y), .int df] h (mj_q none (tk_up h a l t s m f (tk_lns y k df r p).1 (tk_lns y k df r p).2)) := by
  obtain ⟨⟨c0, ⟨b1, b2, b3, b4⟩, ⟨h1, h2, h3, h4, h5, ⟨n1, n2, n3, n4, n5, n6⟩, w1, w2, w3⟩, ⟨z1, z2, z3, z4, z5⟩, hok⟩, ⟨wa, wb⟩⟩ := id C
  have hy8 := pi_end_le p y k
  refine mj_enter (r := 3) rfl rfl (by decide) rfl ?_
  show mj_W M_Co_takeLines _ _ _ _ 0 [some (.ref 3), some (.ref a), some (.int (nI k)), some (.int (nI y)), some (.int df), none, none, none] [] h
  refine mj_aload_n d_Co_takeLines_0 rfl ?_
  refine mj_iload_n d_Co_takeLines_1 rfl ?_
  refine mj_iload_n d_Co_takeLines_2 rfl ?_
  refine mj_cV (S := []) (S1 := [.int (nI (pi_end p y k))]) (c_Pi_endOfChunk C.1.2.2.1 (y := y) (by omega) hk) d_Co_takeLines_3 cw_Pi_endOfChunk ml_Co_70 im_Pi_endOfChunk se_Pi_endOfChunk rfl h1 (by decide) rfl (Nat.le_of_ble_eq_true rfl) rfl rfl ?_
  refine mj_istore (L' := [some (.ref 3), some (.ref a), some (.int (nI k)), some (.int (nI y)), some (.int df), some (.int (nI (pi_end p y k))), none, none]) d_Co_takeLines_6 (by decide) rfl rfl ?_
  refine mj_iload_n d_Co_takeLines_8 rfl ?_
  refine mj_istore (L' := [some (.ref 3), some (.ref a), some (.int (nI k)), some (.int (nI y)), some (.int df), some (.int (nI (pi_end p y k))), some (.int (nI y)), none]) d_Co_takeLines_9 (by decide) rfl rfl ?_
  refine lp_Co_takeLines_y hk (by omega) (pi_end p y k - y) y r p h C hcu (by omega) ?_
  exact mj_vret rfl d_Co_takeLines_65 ⟨rfl, rfl⟩
