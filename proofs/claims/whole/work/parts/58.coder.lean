abbrev tt_X : Type := (Nat → Int32) × by_B × pi_P
def tt_1 (c y sh : Nat) (x : tt_X) : tt_X := (tt_f x.2.2 c y x.1 x.2.1, tt_r x.2.2 c y x.1 x.2.1, tt_p x.2.2 c y sh x.1 x.2.1)
def tt_C (y : Nat) : Nat → Nat → tt_X → tt_X
  | 0, _, x => x
  | j + 1, c, x => tt_C y j (c + 1) (if x.2.2.2.2.2.2.1 c = 1 then tt_1 c y 16 (tt_1 c y 0 x) else tt_1 c y 0 x)
theorem tt_1_in (c y sh : Nat) (f : Nat → Int32) {r : by_B} (p : pi_P) (h1 : r.1 ≤ 384) (h2 : r.2.1 ≤ r.1) : tk_in r p (tt_1 c y sh (f, r, p)).2 := tt_in p c y sh f h1 h2
theorem tt_C_in (y : Nat) : ∀ (j c : Nat) (f : Nat → Int32) (r : by_B) (p : pi_P), r.1 ≤ 384 → r.2.1 ≤ r.1 → tk_in r p (tt_C y j c (f, r, p)).2
  | 0, _, _, _, _, h, g => tk_in0 h g
  | j + 1, c, f, r, p, h, g => by
    rw [tt_C]
    have q1 := tt_1_in c y 0 f p h g
    have q2 := tt_1_in c y 16 (tt_1 c y 0 (f, r, p)).1 (tt_1 c y 0 (f, r, p)).2.2 q1.1 q1.2.1
    split
    · exact (q1.tr q2).tr (tt_C_in y j (c + 1) _ _ _ q2.1 q2.2.1)
    · exact q1.tr (tt_C_in y j (c + 1) _ _ _ q1.1 q1.2.1)
def tt_s (y : Nat) (x : tt_X) : tt_X := tt_C y x.2.2.2.2.1 0 x
set_option maxRecDepth 100000 in
set_option maxHeartbeats 4000000 in
theorem lp_Co_takeTables {Q : mj_E → mj_H → Prop} {a l t s m : Nat} {y kc ks : Nat} : ∀ (j c : Nat) (f : Nat → Int32) (r : by_B) (p : pi_P) (h : mj_H), Ct h r f a l t s m p → r.2.1 ≤ r.1 → y ≤ pi_end p y 3 → c + j = p.2.2.1 → mj_W M_Co_takeTables Q (3, 82, none) kc ks 43 [some (.ref 3), some (.ref a), some (.int (nI y)), none] [] (tk_up h a l t s m (tt_C y j c (f, r, p)).1 (tt_C y j c (f, r, p)).2.1 (tt_C y j c (f, r, p)).2.2) → mj_W M_Co_takeTables Q (3, 82, none) kc ks 2 [some (.ref 3), some (.ref a), some (.int (nI y)), some (.int (nI c))] [] h := by
  intro j
  induction j with
  | zero =>
    intro c f r p h C hcu hy hc kk
    obtain ⟨⟨c0, ⟨b1, b2, b3, b4⟩, ⟨h1, h2, h3, h4, h5, ⟨n1, n2, n3, n4, n5, n6⟩, w1, w2, w3⟩, ⟨z1, z2, z3, z4, z5⟩, hok⟩, ⟨wa, wb⟩⟩ := id C
    refine mj_iload_n d_Co_takeTables_2 rfl ?_
    refine mj_aload_n d_Co_takeTables_3 rfl ?_
    refine mj_get ok_Pi (k := 2) (by decide) fl_Co_76 d_Co_takeTables_4 h1 rfl ?_
    refine mj_icmp_ge (tgt := 43) d_Co_takeTables_7 (by decide) (fun c_7 => ?_) (fun c_7 => ?_)
    · refine mj_fg 3 (L' := [some (.ref 3), some (.ref a), some (.int (nI y)), none]) rfl ?_
      rw [show tt_C y 0 c (f, r, p) = (f, r, p) from rfl, C.tki] at kk
      exact kk
    · exact absurd (nI_le (by omega) (by omega)) c_7
  | succ j ih =>
    intro c f r p h C hcu hy hc kk
    obtain ⟨⟨c0, ⟨b1, b2, b3, b4⟩, ⟨h1, h2, h3, h4, h5, ⟨n1, n2, n3, n4, n5, n6⟩, w1, w2, w3⟩, ⟨z1, z2, z3, z4, z5⟩, hok⟩, ⟨wa, wb⟩⟩ := id C
    refine mj_iload_n d_Co_takeTables_2 rfl ?_
    refine mj_aload_n d_Co_takeTables_3 rfl ?_
    refine mj_get ok_Pi (k := 2) (by decide) fl_Co_76 d_Co_takeTables_4 h1 rfl ?_
    refine mj_icmp_ge (tgt := 43) d_Co_takeTables_7 (by decide) (fun c_7 => ?_) (fun c_7 => ?_)
    · exact absurd c_7 (nI_ge (by omega) (by omega))
    · refine mj_aload_n d_Co_takeTables_10 rfl ?_
      refine mj_aload_n d_Co_takeTables_11 rfl ?_
      refine mj_iload_n d_Co_takeTables_12 rfl ?_
      refine mj_iload_n d_Co_takeTables_13 rfl ?_
      refine mj_iconst (v := 0) d_Co_takeTables_14 (by decide) ?_
      have q1 := tt_1_in c y 0 f p b3 hcu
      refine mj_cV (S := []) (S1 := []) (c_Co_takeTable C hcu (c := c) (y := y) (sh := 0) (by omega) hy) d_Co_takeTables_15 cw_Co_takeTable ml_Co_140 im_Co_takeTable se_Co_takeTable rfl c0 (by decide) rfl (Nat.le_of_ble_eq_true rfl) rfl rfl ?_
      have C1 : Ct (tk_up h a l t s m (tt_1 c y 0 (f, r, p)).1 (tt_1 c y 0 (f, r, p)).2.1 (tt_1 c y 0 (f, r, p)).2.2) (tt_1 c y 0 (f, r, p)).2.1 (tt_1 c y 0 (f, r, p)).1 a l t s m (tt_1 c y 0 (f, r, p)).2.2 := C.tk q1.1 q1.2.2
      obtain ⟨⟨d0, ⟨e1, e2, e3, e4⟩, ⟨i1, i2, i3, i4, i5, i6⟩, -⟩, -⟩ := id C1
      rw [q1.2.2.2.2.2.2.1] at i3
      have q0 := q1.2.2.2.2.1
      refine mj_aload_n d_Co_takeTables_18 rfl ?_
      refine mj_get ok_Pi (k := 4) (by decide) fl_Co_87 d_Co_takeTables_19 i1 rfl ?_
      refine mj_iload_n d_Co_takeTables_22 rfl ?_
      refine mj_iald d_Co_takeTables_23 i3 (vp_in_nI (by omega) (by decide)) ?_
      refine mj_iconst (v := 1) d_Co_takeTables_24 (by decide) ?_
      refine mj_icmp_ne (tgt := 37) d_Co_takeTables_25 (by decide) (fun c_25 => ?_) (fun c_25 => ?_)
      · obtain ⟨v1, e_v1⟩ : ∃ q_ : Int32, q_ = (nI c) + 1 := ⟨_, rfl⟩
        refine mj_iinc (x := (nI c)) (v := v1) (L' := [some (.ref 3), some (.ref a), some (.int (nI y)), some (.int v1)]) d_Co_takeTables_37 rfl (by rw [e_v1]; rfl) (by decide) rfl rfl ?_
        refine mj_goto (tgt := 2) d_Co_takeTables_40 (by decide) ?_
        rw [e_v1, nI_1]
        rw [nI_clamp (by omega)] at c_25
        rw [show tt_C y (j + 1) c (f, r, p) = tt_C y j (c + 1) (tt_1 c y 0 (f, r, p)) by rw [tt_C, if_neg c_25]] at kk
        refine ih (c + 1) (tt_1 c y 0 (f, r, p)).1 (tt_1 c y 0 (f, r, p)).2.1 (tt_1 c y 0 (f, r, p)).2.2 _ (C.tk q1.1 q1.2.2) q1.2.1 (by rw [q1.2.2.en]; exact hy) (by rw [q1.2.2.2.2.1]; omega) ?_
        refine mj_hp (C.tkk q1.2.2 (q1.2.2.trans (tt_C_in y j (c + 1) (tt_1 c y 0 (f, r, p)).1 (tt_1 c y 0 (f, r, p)).2.1 (tt_1 c y 0 (f, r, p)).2.2 q1.1 q1.2.1).2.2)).symm ?_
        exact kk
      · refine mj_aload_n d_Co_takeTables_28 rfl ?_
        refine mj_aload_n d_Co_takeTables_29 rfl ?_
        refine mj_iload_n d_Co_takeTables_30 rfl ?_
        refine mj_iload_n d_Co_takeTables_31 rfl ?_
        refine mj_bipush (v := 16) d_Co_takeTables_32 (by decide) ?_
        have q2 := tt_1_in c y 16 (tt_1 c y 0 (f, r, p)).1 (tt_1 c y 0 (f, r, p)).2.2 q1.1 q1.2.1
        refine mj_cV (S := []) (S1 := []) (c_Co_takeTable C1 q1.2.1 (c := c) (y := y) (sh := 16) (by rw [q0]; omega) (by rw [q1.2.2.en]; exact hy)) d_Co_takeTables_34 cw_Co_takeTable ml_Co_140 im_Co_takeTable se_Co_takeTable rfl d0 (by decide) rfl (Nat.le_of_ble_eq_true rfl) rfl rfl ?_
        refine mj_hp (C.tkk (f1 := (tt_1 c y 0 (f, r, p)).1) (r1 := (tt_1 c y 0 (f, r, p)).2.1) (f2 := (tt_1 c y 16 (tt_1 c y 0 (f, r, p))).1) (r2 := (tt_1 c y 16 (tt_1 c y 0 (f, r, p))).2.1) (p2 := (tt_1 c y 16 (tt_1 c y 0 (f, r, p))).2.2) q1.2.2 (q1.tr q2).2.2).symm ?_
        obtain ⟨v2, e_v2⟩ : ∃ q_ : Int32, q_ = (nI c) + 1 := ⟨_, rfl⟩
        refine mj_iinc (x := (nI c)) (v := v2) (L' := [some (.ref 3), some (.ref a), some (.int (nI y)), some (.int v2)]) d_Co_takeTables_37 rfl (by rw [e_v2]; rfl) (by decide) rfl rfl ?_
        refine mj_goto (tgt := 2) d_Co_takeTables_40 (by decide) ?_
        rw [e_v2, nI_1]
        rw [nI_clamp (by omega)] at c_25
        rw [show tt_C y (j + 1) c (f, r, p) = tt_C y j (c + 1) (tt_1 c y 16 (tt_1 c y 0 (f, r, p))) by rw [tt_C, if_pos c_25]] at kk
        have q3 := q1.tr q2
        refine ih (c + 1) (tt_1 c y 16 (tt_1 c y 0 (f, r, p))).1 (tt_1 c y 16 (tt_1 c y 0 (f, r, p))).2.1 (tt_1 c y 16 (tt_1 c y 0 (f, r, p))).2.2 _ (C.tk q3.1 q3.2.2) q3.2.1 (by rw [q3.2.2.en]; exact hy) (by rw [q3.2.2.2.2.1]; omega) ?_
        refine mj_hp (C.tkk q3.2.2 (q3.2.2.trans (tt_C_in y j (c + 1) (tt_1 c y 16 (tt_1 c y 0 (f, r, p))).1 (tt_1 c y 16 (tt_1 c y 0 (f, r, p))).2.1 (tt_1 c y 16 (tt_1 c y 0 (f, r, p))).2.2 q3.1 q3.2.1).2.2)).symm ?_
        exact kk
set_option maxRecDepth 100000 in
set_option maxHeartbeats 4000000 in
theorem c_Co_takeTables {h : mj_H} {r : by_B} {f : Nat → Int32} {a l t s m : Nat} {p : pi_P} (C : Ct h r f a l t s m p) (hcu : r.2.1 ≤ r.1) {y : Nat} (hy : y ≤ pi_end p y 3) : mj_Met M_Co_takeTables (3, 82, none) 0 0 [.ref 3, .ref a, .int (nI y)] h (mj_q none (tk_up h a l t s m (tt_s y (f, r, p)).1 (tt_s y (f, r, p)).2.1 (tt_s y (f, r, p)).2.2)) := by
  refine mj_enter (r := 1) rfl rfl (by decide) rfl ?_
  show mj_W M_Co_takeTables _ _ _ _ 0 [some (.ref 3), some (.ref a), some (.int (nI y)), none] [] h
  refine mj_iconst (v := 0) d_Co_takeTables_0 (by decide) ?_
  refine mj_istore_n (L' := [some (.ref 3), some (.ref a), some (.int (nI y)), some (.int 0)]) d_Co_takeTables_1 (by decide) rfl rfl ?_
  refine lp_Co_takeTables p.2.2.1 0 f r p h C hcu hy (by omega) ?_
  exact mj_vret rfl d_Co_takeTables_43 ⟨rfl, rfl⟩
def tk_rd (y k : Nat) (pk : Prop) [Decidable pk] (x : tt_X) : tt_X := if pk ∧ k = 3 then tt_s y x else (x.1, tk_lns y k (if pk ∧ k = 2 then 1 else 0) x.2.1 x.2.2)
theorem tk_rd_in (y k : Nat) (pk : Prop) [Decidable pk] (f : Nat → Int32) (r : by_B) (p : pi_P) (h1 : r.1 ≤ 384) (h2 : r.2.1 ≤ r.1) : tk_in r p (tk_rd y k pk (f, r, p)).2 := by
  unfold tk_rd
  split
  · exact tt_C_in _ _ _ _ _ _ h1 h2
  · exact tk_lnY_in _ _ _ _ _ _ h1 h2
set_option maxRecDepth 100000 in
set_option maxHeartbeats 4000000 in
theorem c_Co_takeReady {h : mj_H} {r : by_B} {f : Nat → Int32} {a l t s m : Nat} {p : pi_P} (C : Ct h r f a l t s m p) (hcu : r.2.1 ≤ r.1) {y k : Nat} (pk : Prop) [Decidable pk] (hy : y ≤ pi_end p y k) (hk : k < 4) : mj_Met M_Co_takeReady (4, 105, none) 0 0 [.ref 3, .ref a, .int (nI k), .int (nI y), .int (if pk then 1 else 0)] h (mj_q none (tk_up h a l t s m (tk_rd y k pk (f, r, p)).1 (tk_rd y k pk (f, r, p)).2.1 (tk_rd y k pk (f, r, p)).2.2)) := by
  obtain ⟨⟨c0, ⟨b1, b2, b3, b4⟩, ⟨h1, h2, h3, h4, h5, ⟨n1, n2, n3, n4, n5, n6⟩, w1, w2, w3⟩, ⟨z1, z2, z3, z4, z5⟩, hok⟩, ⟨wa, wb⟩⟩ := id C
  refine mj_enter (r := 0) rfl rfl (by decide) rfl ?_
  show mj_W M_Co_takeReady _ _ _ _ 0 [some (.ref 3), some (.ref a), some (.int (nI k)), some (.int (nI y)), some (.int (if pk then 1 else 0))] [] h
  refine mj_iload d_Co_takeReady_0 rfl ?_
  refine mj_if_eq (tgt := 19) d_Co_takeReady_2 (by decide) (fun c_2 => ?_) (fun c_2 => ?_)
  · refine mj_aload_n d_Co_takeReady_19 rfl ?_
    refine mj_aload_n d_Co_takeReady_20 rfl ?_
    refine mj_iload_n d_Co_takeReady_21 rfl ?_
    refine mj_iload_n d_Co_takeReady_22 rfl ?_
    refine mj_iload d_Co_takeReady_23 rfl ?_
    refine mj_if_eq (tgt := 37) d_Co_takeReady_25 (by decide) (fun c_25 => ?_) (fun c_25 => ?_)
    · refine mj_iconst (v := 0) d_Co_takeReady_37 (by decide) ?_
      have gp : ¬ pk := fun e0 => by rw [if_pos e0] at c_2; exact absurd c_2 (by decide)
      have g13 : ¬ (pk ∧ k = 3) := fun e0 => gp e0.1
      have gq : ¬ pk := fun e0 => by rw [if_pos e0] at c_25; exact absurd c_25 (by decide)
      have g12 : ¬ (pk ∧ k = 2) := fun e0 => gq e0.1
      have er : tk_rd y k pk (f, r, p) = (f, tk_lns y k 0 r p) := by unfold tk_rd; rw [if_neg g13, if_neg g12]
      refine mj_cV (S := []) (S1 := []) (c_Co_takeLines C hcu (y := y) (k := k) 0 hy hk) d_Co_takeReady_38 cw_Co_takeLines ml_Co_67 im_Co_takeLines se_Co_takeLines rfl c0 (by decide) rfl (Nat.le_of_ble_eq_true rfl) rfl rfl ?_
      exact mj_vret rfl d_Co_takeReady_41 ⟨rfl, by rw [er]⟩
    · refine mj_iload_n d_Co_takeReady_28 rfl ?_
      refine mj_iconst (v := 2) d_Co_takeReady_29 (by decide) ?_
      refine mj_icmp_ne (tgt := 37) d_Co_takeReady_30 (by decide) (fun c_30 => ?_) (fun c_30 => ?_)
      · refine mj_iconst (v := 0) d_Co_takeReady_37 (by decide) ?_
        have gp : ¬ pk := fun e0 => by rw [if_pos e0] at c_2; exact absurd c_2 (by decide)
        have g13 : ¬ (pk ∧ k = 3) := fun e0 => gp e0.1
        have g2 : ¬ k = 2 := fun e0 => c_30 (by rw [e0]; rfl)
        have g12 : ¬ (pk ∧ k = 2) := fun e0 => g2 e0.2
        have er : tk_rd y k pk (f, r, p) = (f, tk_lns y k 0 r p) := by unfold tk_rd; rw [if_neg g13, if_neg g12]
        refine mj_cV (S := []) (S1 := []) (c_Co_takeLines C hcu (y := y) (k := k) 0 hy hk) d_Co_takeReady_38 cw_Co_takeLines ml_Co_67 im_Co_takeLines se_Co_takeLines rfl c0 (by decide) rfl (Nat.le_of_ble_eq_true rfl) rfl rfl ?_
        exact mj_vret rfl d_Co_takeReady_41 ⟨rfl, by rw [er]⟩
      · refine mj_iconst (v := 1) d_Co_takeReady_33 (by decide) ?_
        refine mj_goto (tgt := 38) d_Co_takeReady_34 (by decide) ?_
        have gp : ¬ pk := fun e0 => by rw [if_pos e0] at c_2; exact absurd c_2 (by decide)
        have g13 : ¬ (pk ∧ k = 3) := fun e0 => gp e0.1
        have gq : pk := Decidable.byContradiction (fun e0 => c_25 (by rw [if_neg e0]))
        have g2 : k = 2 := by rw [show (2 : Int32) = nI 2 from rfl, nI_eq (by omega) (by decide)] at c_30; exact c_30
        have g12 : pk ∧ k = 2 := ⟨gq, g2⟩
        have er : tk_rd y k pk (f, r, p) = (f, tk_lns y k 1 r p) := by unfold tk_rd; rw [if_neg g13, if_pos g12]
        refine mj_cV (S := []) (S1 := []) (c_Co_takeLines C hcu (y := y) (k := k) 1 hy hk) d_Co_takeReady_38 cw_Co_takeLines ml_Co_67 im_Co_takeLines se_Co_takeLines rfl c0 (by decide) rfl (Nat.le_of_ble_eq_true rfl) rfl rfl ?_
        exact mj_vret rfl d_Co_takeReady_41 ⟨rfl, by rw [er]⟩
  · refine mj_iload_n d_Co_takeReady_5 rfl ?_
    refine mj_iconst (v := 3) d_Co_takeReady_6 (by decide) ?_
    refine mj_icmp_ne (tgt := 19) d_Co_takeReady_7 (by decide) (fun c_7 => ?_) (fun c_7 => ?_)
    · refine mj_aload_n d_Co_takeReady_19 rfl ?_
      refine mj_aload_n d_Co_takeReady_20 rfl ?_
      refine mj_iload_n d_Co_takeReady_21 rfl ?_
      refine mj_iload_n d_Co_takeReady_22 rfl ?_
      refine mj_iload d_Co_takeReady_23 rfl ?_
      refine mj_if_eq (tgt := 37) d_Co_takeReady_25 (by decide) (fun c_25 => ?_) (fun c_25 => ?_)
      · refine mj_iconst (v := 0) d_Co_takeReady_37 (by decide) ?_
        have g3 : ¬ k = 3 := fun e0 => c_7 (by rw [e0]; rfl)
        have g13 : ¬ (pk ∧ k = 3) := fun e0 => g3 e0.2
        have gq : ¬ pk := fun e0 => by rw [if_pos e0] at c_25; exact absurd c_25 (by decide)
        have g12 : ¬ (pk ∧ k = 2) := fun e0 => gq e0.1
        have er : tk_rd y k pk (f, r, p) = (f, tk_lns y k 0 r p) := by unfold tk_rd; rw [if_neg g13, if_neg g12]
        refine mj_cV (S := []) (S1 := []) (c_Co_takeLines C hcu (y := y) (k := k) 0 hy hk) d_Co_takeReady_38 cw_Co_takeLines ml_Co_67 im_Co_takeLines se_Co_takeLines rfl c0 (by decide) rfl (Nat.le_of_ble_eq_true rfl) rfl rfl ?_
        exact mj_vret rfl d_Co_takeReady_41 ⟨rfl, by rw [er]⟩
      · refine mj_iload_n d_Co_takeReady_28 rfl ?_
        refine mj_iconst (v := 2) d_Co_takeReady_29 (by decide) ?_
        refine mj_icmp_ne (tgt := 37) d_Co_takeReady_30 (by decide) (fun c_30 => ?_) (fun c_30 => ?_)
        · refine mj_iconst (v := 0) d_Co_takeReady_37 (by decide) ?_
          have g3 : ¬ k = 3 := fun e0 => c_7 (by rw [e0]; rfl)
          have g13 : ¬ (pk ∧ k = 3) := fun e0 => g3 e0.2
          have g2 : ¬ k = 2 := fun e0 => c_30 (by rw [e0]; rfl)
          have g12 : ¬ (pk ∧ k = 2) := fun e0 => g2 e0.2
          have er : tk_rd y k pk (f, r, p) = (f, tk_lns y k 0 r p) := by unfold tk_rd; rw [if_neg g13, if_neg g12]
          refine mj_cV (S := []) (S1 := []) (c_Co_takeLines C hcu (y := y) (k := k) 0 hy hk) d_Co_takeReady_38 cw_Co_takeLines ml_Co_67 im_Co_takeLines se_Co_takeLines rfl c0 (by decide) rfl (Nat.le_of_ble_eq_true rfl) rfl rfl ?_
          exact mj_vret rfl d_Co_takeReady_41 ⟨rfl, by rw [er]⟩
        · refine mj_iconst (v := 1) d_Co_takeReady_33 (by decide) ?_
          refine mj_goto (tgt := 38) d_Co_takeReady_34 (by decide) ?_
          have g3 : ¬ k = 3 := fun e0 => c_7 (by rw [e0]; rfl)
          have g13 : ¬ (pk ∧ k = 3) := fun e0 => g3 e0.2
          have gq : pk := Decidable.byContradiction (fun e0 => c_25 (by rw [if_neg e0]))
          have g2 : k = 2 := by rw [show (2 : Int32) = nI 2 from rfl, nI_eq (by omega) (by decide)] at c_30; exact c_30
          have g12 : pk ∧ k = 2 := ⟨gq, g2⟩
          have er : tk_rd y k pk (f, r, p) = (f, tk_lns y k 1 r p) := by unfold tk_rd; rw [if_neg g13, if_pos g12]
          refine mj_cV (S := []) (S1 := []) (c_Co_takeLines C hcu (y := y) (k := k) 1 hy hk) d_Co_takeReady_38 cw_Co_takeLines ml_Co_67 im_Co_takeLines se_Co_takeLines rfl c0 (by decide) rfl (Nat.le_of_ble_eq_true rfl) rfl rfl ?_
          exact mj_vret rfl d_Co_takeReady_41 ⟨rfl, by rw [er]⟩
    · refine mj_aload_n d_Co_takeReady_10 rfl ?_
      refine mj_aload_n d_Co_takeReady_11 rfl ?_
      refine mj_iload_n d_Co_takeReady_12 rfl ?_
      have gp : pk := Decidable.byContradiction (fun e0 => c_2 (by rw [if_neg e0]))
      have g3 : k = 3 := by rw [show (3 : Int32) = nI 3 from rfl, nI_eq (by omega) (by decide)] at c_7; exact c_7
      have er : tk_rd y k pk (f, r, p) = tt_s y (f, r, p) := by unfold tk_rd; exact if_pos ⟨gp, g3⟩
      refine mj_cV (S := []) (S1 := []) (c_Co_takeTables C hcu (y := y) (by rw [g3] at hy; exact hy)) d_Co_takeReady_13 cw_Co_takeTables ml_Co_64 im_Co_takeTables se_Co_takeTables rfl c0 (by decide) rfl (Nat.le_of_ble_eq_true rfl) rfl rfl ?_
      refine mj_goto (tgt := 41) d_Co_takeReady_16 (by decide) ?_
      exact mj_vret rfl d_Co_takeReady_41 ⟨rfl, by rw [er]⟩
