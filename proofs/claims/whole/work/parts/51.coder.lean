def co_lnC (p : pi_P) (y k : Nat) (df : Int32) : Nat → Nat → by_B → by_B
  | 0, _, r => r
  | j + 1, c, r => co_lnC p y k df j (c + 1) (if p.2.2.2.2.2.1 c = 1 ∨ y % 2 = 0 then co_ln p c y k df (pi_on p c p.1) 0 0 r else r)
def co_lnY (p : pi_P) (k : Nat) (df : Int32) : Nat → Nat → by_B → by_B
  | 0, _, r => r
  | j + 1, y, r => co_lnY p k df j (y + 1) (co_lnC p y k df p.2.2.1 0 r)
def co_lns (p : pi_P) (y k : Nat) (df : Int32) (r : by_B) : by_B := co_lnY p k df (pi_end p y k - y) y (0, 0, r.2.2)
theorem co_lnC_le (p : pi_P) (y k : Nat) (df : Int32) : ∀ (j c : Nat) (r : by_B), r.1 ≤ 384 → (co_lnC p y k df j c r).1 ≤ 384
  | 0, _, _, h => h
  | j + 1, c, r, h => by
    rw [co_lnC]
    refine co_lnC_le p y k df j (c + 1) _ ?_
    split
    · exact co_ln_le _ _ _ _ _ _ _ _ _ h
    · exact h
theorem co_lnY_le (p : pi_P) (k : Nat) (df : Int32) : ∀ (j y : Nat) (r : by_B), r.1 ≤ 384 → (co_lnY p k df j y r).1 ≤ 384
  | 0, _, _, h => h
  | j + 1, y, r, h => co_lnY_le p k df j (y + 1) _ (co_lnC_le _ _ _ _ _ _ _ h)
theorem co_lns_le (p : pi_P) (y k : Nat) (df : Int32) (r : by_B) : (co_lns p y k df r).1 ≤ 384 := co_lnY_le _ _ _ _ _ _ (Nat.zero_le _)
set_option maxRecDepth 100000 in
set_option maxHeartbeats 4000000 in
theorem lp_Co_putLines_c {Q : mj_E → mj_H → Prop} {a l t s m : Nat} {p : pi_P} {f k e y kc ks : Nat} {df : Int32} (hk : k < 4) (hy : y < 8) : ∀ (j c : Nat) (r : by_B) (h : mj_H), Cp h r a l t s m p → c + j = p.2.2.1 → mj_W M_Co_putLines Q (3, 75, none) kc ks 66 [some (.ref 3), some (.ref a), some (.int (nI k)), some (.int (nI f)), some (.int df), some (.int (nI e)), some (.int (nI y)), none] [] (by_up h 4 5 384 (co_lnC p y k df j c r)) → mj_W M_Co_putLines Q (3, 75, none) kc ks 28 [some (.ref 3), some (.ref a), some (.int (nI k)), some (.int (nI f)), some (.int df), some (.int (nI e)), some (.int (nI y)), some (.int (nI c))] [] h := by
  intro j
  induction j with
  | zero =>
    intro c r h C hc kk
    obtain ⟨c0, ⟨b1, b2, b3, b4⟩, ⟨h1, h2, h3, h4, h5, ⟨n1, n2, n3, n4, n5, n6⟩, w1, w2, w3⟩, ⟨z1, z2, z3, z4, z5⟩, hok⟩ := id C
    refine mj_iload d_Co_putLines_28 rfl ?_
    refine mj_aload_n d_Co_putLines_30 rfl ?_
    refine mj_get ok_Pi (k := 2) (by decide) fl_Co_76 d_Co_putLines_31 h1 rfl ?_
    refine mj_icmp_ge (tgt := 66) d_Co_putLines_34 (by decide) (fun c_34 => ?_) (fun c_34 => ?_)
    · refine mj_fg 7 (L' := [some (.ref 3), some (.ref a), some (.int (nI k)), some (.int (nI f)), some (.int df), some (.int (nI e)), some (.int (nI y)), none]) rfl ?_
      rw [show co_lnC p y k df 0 c r = r from rfl, C.2.1.idn] at kk
      exact kk
    · exact absurd (nI_le (by omega) (by omega)) c_34
  | succ j ih =>
    intro c r h C hc kk
    obtain ⟨c0, ⟨b1, b2, b3, b4⟩, ⟨h1, h2, h3, h4, h5, ⟨n1, n2, n3, n4, n5, n6⟩, w1, w2, w3⟩, ⟨z1, z2, z3, z4, z5⟩, hok⟩ := id C
    refine mj_iload d_Co_putLines_28 rfl ?_
    refine mj_aload_n d_Co_putLines_30 rfl ?_
    refine mj_get ok_Pi (k := 2) (by decide) fl_Co_76 d_Co_putLines_31 h1 rfl ?_
    refine mj_icmp_ge (tgt := 66) d_Co_putLines_34 (by decide) (fun c_34 => ?_) (fun c_34 => ?_)
    · exact absurd c_34 (nI_ge (by omega) (by omega))
    · refine mj_aload_n d_Co_putLines_37 rfl ?_
      refine mj_iload d_Co_putLines_38 rfl ?_
      refine mj_iload d_Co_putLines_40 rfl ?_
      refine mj_cV (S := []) (S1 := [.int (if p.2.2.2.2.2.1 c = 1 ∨ y % 2 = 0 then 1 else 0)]) (c_Pi_isOnStep C.2.2.1 (c := c) (y := y) (by omega) (by omega)) d_Co_putLines_42 cw_Pi_isOnStep ml_Co_79 im_Pi_isOnStep se_Pi_isOnStep rfl h1 (by decide) rfl (Nat.le_of_ble_eq_true rfl) rfl rfl ?_
      refine mj_if_eq (tgt := 60) d_Co_putLines_45 (by decide) (fun c_45 => ?_) (fun c_45 => ?_)
      · obtain ⟨v1, e_v1⟩ : ∃ q_ : Int32, q_ = (nI c) + 1 := ⟨_, rfl⟩
        refine mj_iinc (x := (nI c)) (v := v1) (L' := [some (.ref 3), some (.ref a), some (.int (nI k)), some (.int (nI f)), some (.int df), some (.int (nI e)), some (.int (nI y)), some (.int v1)]) d_Co_putLines_60 rfl (by rw [e_v1]; rfl) (by decide) rfl rfl ?_
        refine mj_goto (tgt := 28) d_Co_putLines_63 (by decide) ?_
        rw [e_v1, nI_1]
        have g1 : ¬ (p.2.2.2.2.2.1 c = 1 ∨ y % 2 = 0) := fun q => by rw [if_pos q] at c_45; exact absurd c_45 (by decide)
        rw [show co_lnC p y k df (j + 1) c r = co_lnC p y k df j (c + 1) r by rw [co_lnC, if_neg g1]] at kk
        exact ih (c + 1) r h C (by omega) kk
      · have g1 : p.2.2.2.2.2.1 c = 1 ∨ y % 2 = 0 := Decidable.byContradiction (fun q => c_45 (by rw [if_neg q]))
        refine mj_aload_n d_Co_putLines_48 rfl ?_
        refine mj_aload_n d_Co_putLines_49 rfl ?_
        refine mj_iload d_Co_putLines_50 rfl ?_
        refine mj_iload d_Co_putLines_52 rfl ?_
        refine mj_iload_n d_Co_putLines_54 rfl ?_
        refine mj_iload d_Co_putLines_55 rfl ?_
        refine mj_cV (S := []) (S1 := []) (c_Co_putLine C (c := c) (y := y) (k := k) df (by omega) hy hk) d_Co_putLines_57 cw_Co_putLine ml_Co_83 im_Co_putLine se_Co_putLine rfl c0 (by decide) rfl (Nat.le_of_ble_eq_true rfl) rfl rfl ?_
        obtain ⟨v2, e_v2⟩ : ∃ q_ : Int32, q_ = (nI c) + 1 := ⟨_, rfl⟩
        refine mj_iinc (x := (nI c)) (v := v2) (L' := [some (.ref 3), some (.ref a), some (.int (nI k)), some (.int (nI f)), some (.int df), some (.int (nI e)), some (.int (nI y)), some (.int v2)]) d_Co_putLines_60 rfl (by rw [e_v2]; rfl) (by decide) rfl rfl ?_
        refine mj_goto (tgt := 28) d_Co_putLines_63 (by decide) ?_
        rw [e_v2, nI_1]
        rw [show co_lnC p y k df (j + 1) c r = co_lnC p y k df j (c + 1) (co_ln p c y k df (pi_on p c p.1) 0 0 r) by rw [co_lnC, if_pos g1]] at kk
        refine ih (c + 1) _ _ (C.up (co_ln_le _ _ _ _ _ _ _ _ _ b3)) (by omega) ?_
        rw [C.2.1.upup]
        exact kk
set_option maxRecDepth 100000 in
set_option maxHeartbeats 4000000 in
theorem lp_Co_putLines_y {Q : mj_E → mj_H → Prop} {a l t s m : Nat} {p : pi_P} {f k e kc ks : Nat} {df : Int32} (hk : k < 4) (he : e ≤ 8) : ∀ (j y : Nat) (r : by_B) (h : mj_H), Cp h r a l t s m p → y + j = e → mj_W M_Co_putLines Q (3, 75, none) kc ks 72 [some (.ref 3), some (.ref a), some (.int (nI k)), some (.int (nI f)), some (.int df), some (.int (nI e)), none, none] [] (by_up h 4 5 384 (co_lnY p k df j y r)) → mj_W M_Co_putLines Q (3, 75, none) kc ks 18 [some (.ref 3), some (.ref a), some (.int (nI k)), some (.int (nI f)), some (.int df), some (.int (nI e)), some (.int (nI y)), none] [] h := by
  intro j
  induction j with
  | zero =>
    intro y r h C hy kk
    obtain ⟨c0, ⟨b1, b2, b3, b4⟩, ⟨h1, h2, h3, h4, h5, ⟨n1, n2, n3, n4, n5, n6⟩, w1, w2, w3⟩, ⟨z1, z2, z3, z4, z5⟩, hok⟩ := id C
    refine mj_iload d_Co_putLines_18 rfl ?_
    refine mj_iload d_Co_putLines_20 rfl ?_
    refine mj_icmp_ge (tgt := 72) d_Co_putLines_22 (by decide) (fun c_22 => ?_) (fun c_22 => ?_)
    · refine mj_fg 6 (L' := [some (.ref 3), some (.ref a), some (.int (nI k)), some (.int (nI f)), some (.int df), some (.int (nI e)), none, none]) rfl ?_
      rw [show co_lnY p k df 0 y r = r from rfl, C.2.1.idn] at kk
      exact kk
    · exact absurd (nI_le (by omega) (by omega)) c_22
  | succ j ih =>
    intro y r h C hy kk
    obtain ⟨c0, ⟨b1, b2, b3, b4⟩, ⟨h1, h2, h3, h4, h5, ⟨n1, n2, n3, n4, n5, n6⟩, w1, w2, w3⟩, ⟨z1, z2, z3, z4, z5⟩, hok⟩ := id C
    refine mj_iload d_Co_putLines_18 rfl ?_
    refine mj_iload d_Co_putLines_20 rfl ?_
    refine mj_icmp_ge (tgt := 72) d_Co_putLines_22 (by decide) (fun c_22 => ?_) (fun c_22 => ?_)
    · exact absurd c_22 (nI_ge (by omega) (by omega))
    · refine mj_iconst (v := 0) d_Co_putLines_25 (by decide) ?_
      refine mj_istore (L' := [some (.ref 3), some (.ref a), some (.int (nI k)), some (.int (nI f)), some (.int df), some (.int (nI e)), some (.int (nI y)), some (.int 0)]) d_Co_putLines_26 (by decide) rfl rfl ?_
      refine lp_Co_putLines_c hk (by omega) p.2.2.1 0 r h C (by omega) ?_
      obtain ⟨v1, e_v1⟩ : ∃ q_ : Int32, q_ = (nI y) + 1 := ⟨_, rfl⟩
      refine mj_iinc (x := (nI y)) (v := v1) (L' := [some (.ref 3), some (.ref a), some (.int (nI k)), some (.int (nI f)), some (.int df), some (.int (nI e)), some (.int v1), none]) d_Co_putLines_66 rfl (by rw [e_v1]; rfl) (by decide) rfl rfl ?_
      refine mj_goto (tgt := 18) d_Co_putLines_69 (by decide) ?_
      rw [e_v1, nI_1]
      refine ih (y + 1) _ _ (C.up (co_lnC_le _ _ _ _ _ _ _ b3)) (by omega) ?_
      rw [C.2.1.upup]
      exact kk
set_option maxRecDepth 100000 in
set_option maxHeartbeats 4000000 in
theorem c_Co_putLines {h : mj_H} {r : by_B} {a l t s m : Nat} {p : pi_P} (C : Cp h r a l t s m p) {y k : Nat} (df : Int32) (hy : y ≤ pi_end p y k) (hk : k < 4) : mj_Met M_Co_putLines (3, 75, none) 0 0 [.ref 3, .ref a, .int (nI k), .int (nI y), .int df] h (mj_q none (by_up h 4 5 384 (co_lns p y k df r))) := by
  obtain ⟨c0, ⟨b1, b2, b3, b4⟩, ⟨h1, h2, h3, h4, h5, ⟨n1, n2, n3, n4, n5, n6⟩, w1, w2, w3⟩, ⟨z1, z2, z3, z4, z5⟩, hok⟩ := id C
  have hy8 := pi_end_le p y k
  refine mj_enter (r := 3) rfl rfl (by decide) rfl ?_
  show mj_W M_Co_putLines _ _ _ _ 0 [some (.ref 3), some (.ref a), some (.int (nI k)), some (.int (nI y)), some (.int df), none, none, none] [] h
  refine mj_aload_n d_Co_putLines_0 rfl ?_
  refine mj_get ok_Co (k := 0) (by decide) fl_Co_14 d_Co_putLines_1 c0 rfl ?_
  have C1 : Cp (by_up h 4 5 384 (0, 0, r.2.2)) (0, 0, r.2.2) a l t s m p := C.up (r' := (0, 0, r.2.2)) (Nat.zero_le _)
  refine mj_cV (S := []) (S1 := []) (c_By_clear C.2.1) d_Co_putLines_4 cw_By_clear ml_Co_57 im_By_clear se_By_clear rfl b1 (by decide) rfl (Nat.le_of_ble_eq_true rfl) rfl rfl ?_
  refine mj_aload_n d_Co_putLines_7 rfl ?_
  refine mj_iload_n d_Co_putLines_8 rfl ?_
  refine mj_iload_n d_Co_putLines_9 rfl ?_
  refine mj_cV (S := []) (S1 := [.int (nI (pi_end p y k))]) (c_Pi_endOfChunk C1.2.2.1 (y := y) (by omega) hk) d_Co_putLines_10 cw_Pi_endOfChunk ml_Co_70 im_Pi_endOfChunk se_Pi_endOfChunk rfl C1.2.2.1.1 (by decide) rfl (Nat.le_of_ble_eq_true rfl) rfl rfl ?_
  refine mj_istore (L' := [some (.ref 3), some (.ref a), some (.int (nI k)), some (.int (nI y)), some (.int df), some (.int (nI (pi_end p y k))), none, none]) d_Co_putLines_13 (by decide) rfl rfl ?_
  refine mj_iload_n d_Co_putLines_15 rfl ?_
  refine mj_istore (L' := [some (.ref 3), some (.ref a), some (.int (nI k)), some (.int (nI y)), some (.int df), some (.int (nI (pi_end p y k))), some (.int (nI y)), none]) d_Co_putLines_16 (by decide) rfl rfl ?_
  refine lp_Co_putLines_y hk (by omega) (pi_end p y k - y) y _ _ C1 (by omega) ?_
  rw [C.2.1.upup]
  exact mj_vret rfl d_Co_putLines_72 ⟨rfl, rfl⟩
