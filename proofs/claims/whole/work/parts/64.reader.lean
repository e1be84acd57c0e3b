def PS (h : mj_H) (b : by_B) (x : rd_X) (a l t s m : Nat) (p : pi_P) : Prop := Rd h b x ∧ Pi h a l t s m p ∧ (17 ≤ a ∧ 17 ≤ l ∧ 17 ≤ t ∧ 17 ≤ s ∧ 17 ≤ m) ∧ pi_ok p
def ps_up (h : mj_H) (a l t s m : Nat) (x : rd_X) (p : pi_P) : mj_H := (pi_up h a l t s m p).set 14 (rd_o x)
def pi_bd (p : pi_P) : Prop := p.1 ≤ 8 ∧ p.2.1 ≤ 8 ∧ p.2.2.1 ≤ 3
theorem Rd.pu {h : mj_H} {b : by_B} {x : rd_X} {a l t s m : Nat} {p : pi_P} (R : Rd h b x) (z : (17 ≤ a ∧ 17 ≤ l ∧ 17 ≤ t ∧ 17 ≤ s ∧ 17 ≤ m)) : Rd (pi_up h a l t s m p) b x := ⟨⟨by rw [pi_fr17 z (by decide)]; exact R.1.1, by rw [pi_fr17 z (by decide)]; exact R.1.2.1, R.1.2.2⟩, by rw [pi_fr17 z (by decide)]; exact R.2⟩
theorem PS.up {h : mj_H} {b : by_B} {x x' : rd_X} {a l t s m : Nat} {p p' : pi_P} (S : PS h b x a l t s m p) (hp : pi_bd p') (ho : pi_ok p') : PS (ps_up h a l t s m x' p') b x' a l t s m p' := ⟨(S.1.pu S.2.2.1).up, Rd.pi (S.2.1.up hp) S.2.2.1, S.2.2.1, ho⟩
theorem PS.rd {h : mj_H} {b : by_B} {x x' : rd_X} {a l t s m : Nat} {p : pi_P} (S : PS h b x a l t s m p) : PS (h.set 14 (rd_o x')) b x' a l t s m p := ⟨S.1.up, Rd.pi S.2.1 S.2.2.1, S.2.2.1, S.2.2.2⟩
theorem PS.bd {h : mj_H} {b : by_B} {x : rd_X} {a l t s m : Nat} {p : pi_P} (S : PS h b x a l t s m p) : pi_bd p := S.2.1.2.2.2.2.2.2
theorem PS.r {h : mj_H} {b : by_B} {x x' : rd_X} {a l t s m : Nat} {p : pi_P} (S : PS h b x a l t s m p) : h.set 14 (rd_o x') = ps_up h a l t s m x' p := by
  unfold ps_up
  rw [S.2.1.idn]
theorem PS.idn {h : mj_H} {b : by_B} {x : rd_X} {a l t s m : Nat} {p : pi_P} (S : PS h b x a l t s m p) : ps_up h a l t s m x p = h := by
  unfold ps_up
  rw [S.2.1.idn]
  exact mj_sE S.1.2
theorem PS.pp {h : mj_H} {b : by_B} {x x1 x2 : rd_X} {a l t s m : Nat} {p p1 p2 : pi_P} (S : PS h b x a l t s m p) (h1 : pi_bd p1) (h2 : pi_bd p2) : ps_up (ps_up h a l t s m x1 p1) a l t s m x2 p2 = ps_up h a l t s m x2 p2 := by
  unfold ps_up
  rw [← pi_set S.2.2.1 (show (14 : Nat) < 17 by decide), S.2.1.upup h1 h2, List.set_set]
theorem PS.pr {h : mj_H} {a l t s m : Nat} {x1 x2 : rd_X} {p1 : pi_P} : (ps_up h a l t s m x1 p1).set 14 (rd_o x2) = ps_up h a l t s m x2 p1 := by
  unfold ps_up
  rw [List.set_set]
theorem PS.ps {h : mj_H} {a l t s m : Nat} {x : rd_X} {p1 : pi_P} (z : (17 ≤ a ∧ 17 ≤ l ∧ 17 ≤ t ∧ 17 ≤ s ∧ 17 ≤ m)) : pi_up (h.set 14 (rd_o x)) a l t s m p1 = ps_up h a l t s m x p1 := by
  unfold ps_up
  rw [pi_set z (by decide)]
def rd_h2 (b : by_B) (p : pi_P) (x : rd_X) : Bool × rd_X × pi_P := if (rd_h5 b x).1 = true then (true, rd_sc (rd_h5 b x).2 (by_h b ((rd_h5 b x).2.2.2.2 - 1)), pi_new p (by_h b ((rd_h5 b x).2.2.2.2 - 3)) (by_h b ((rd_h5 b x).2.2.2.2 - 2))) else (false, (rd_h5 b x).2, p)
theorem pi_new_ok (p : pi_P) (w v : Nat) : pi_ok (pi_new p w v) := fun c hc => absurd hc (Nat.not_lt_zero c)
set_option maxRecDepth 100000 in
set_option maxHeartbeats 4000000 in
theorem w_Re_readHead {h : mj_H} {b : by_B} {x : rd_X} {a l t s m : Nat} {p : pi_P} (S : PS h b x a l t s m p) (hb : by_ok b) (hx : x.2.2.2 ≤ b.1) : mj_W M_Re_readHead (mj_q (some (.int (if (rd_h2 b p x).1 = true then 1 else 0))) (ps_up h a l t s m (rd_h2 b p x).2.1 (rd_h2 b p x).2.2)) (3, 68, none) 0 0 35 [some (.ref 14), some (.ref a), none] [] h := by
  obtain ⟨⟨⟨f1, f2, f3, f4⟩, r0⟩, ⟨h1, h2, h3, h4, h5, ⟨n1, n2, n3, n4, n5, n6⟩, w1, w2, w3⟩, z, hok⟩ := id S
  have q1 := rd_kn_pl b 2 2 x hx
  have S1 := S.rd (x' := (rd_kn b 2 2 x).2)
  have r1 := S1.1.2
  have q2 := rd_nx_pl b 1 8 (rd_kn b 2 2 x).2 q1.1
  have S2 := S.rd (x' := (rd_nx b 1 8 (rd_kn b 2 2 x).2).2)
  have r2 := S2.1.2
  have q3 := rd_nx_pl b 1 8 (rd_nx b 1 8 (rd_kn b 2 2 x).2).2 q2.1
  have S3 := S.rd (x' := (rd_nx b 1 8 (rd_nx b 1 8 (rd_kn b 2 2 x).2).2).2)
  have r3 := S3.1.2
  have q4 := rd_kn_pl b 0 3 (rd_nx b 1 8 (rd_nx b 1 8 (rd_kn b 2 2 x).2).2).2 q3.1
  have S4 := S.rd (x' := (rd_kn b 0 3 (rd_nx b 1 8 (rd_nx b 1 8 (rd_kn b 2 2 x).2).2).2).2)
  have r4 := S4.1.2
  refine mj_aload_n d_Re_readHead_35 rfl ?_
  refine mj_iconst (v := 2) d_Re_readHead_36 (by decide) ?_
  refine mj_iconst (v := 2) d_Re_readHead_37 (by decide) ?_
  refine mj_cV (S := []) (S1 := [.int (if (rd_kn b 2 2 x).1 = true then 1 else 0)]) (c_Re_nextIsKnown S.1 hx 2 2) d_Re_readHead_38 cw_Re_nextIsKnown ml_Re_72 im_Re_nextIsKnown se_Re_nextIsKnown rfl r0 (by decide) rfl (Nat.le_of_ble_eq_true rfl) rfl rfl ?_
  rcases Bool.eq_false_or_eq_true ((rd_kn b 2 2 x).1) with g1 | g1
  · rw [show (if (rd_kn b 2 2 x).1 = true then (1 : Int32) else 0) = 1 by rw [g1]; rfl]
    refine mj_if_eq (tgt := 73) d_Re_readHead_41 (by decide) (fun _q => absurd _q (by decide)) (fun _q => ?_)
    refine mj_aload_n d_Re_readHead_44 rfl ?_
    refine mj_iconst (v := 1) d_Re_readHead_45 (by decide) ?_
    refine mj_bipush (v := 8) d_Re_readHead_46 (by decide) ?_
    refine mj_cV (S := []) (S1 := [.int (if (rd_nx b 1 8 (rd_kn b 2 2 x).2).1 = true then 1 else 0)]) (c_Re_nextIs S1.1 q1.1 1 8) d_Re_readHead_48 cw_Re_nextIs ml_Re_68 im_Re_nextIs se_Re_nextIs rfl r1 (by decide) rfl (Nat.le_of_ble_eq_true rfl) rfl rfl ?_
    rw [List.set_set]
    rcases Bool.eq_false_or_eq_true ((rd_nx b 1 8 (rd_kn b 2 2 x).2).1) with g2 | g2
    · rw [show (if (rd_nx b 1 8 (rd_kn b 2 2 x).2).1 = true then (1 : Int32) else 0) = 1 by rw [g2]; rfl]
      refine mj_if_eq (tgt := 73) d_Re_readHead_51 (by decide) (fun _q => absurd _q (by decide)) (fun _q => ?_)
      refine mj_aload_n d_Re_readHead_54 rfl ?_
      refine mj_iconst (v := 1) d_Re_readHead_55 (by decide) ?_
      refine mj_bipush (v := 8) d_Re_readHead_56 (by decide) ?_
      refine mj_cV (S := []) (S1 := [.int (if (rd_nx b 1 8 (rd_nx b 1 8 (rd_kn b 2 2 x).2).2).1 = true then 1 else 0)]) (c_Re_nextIs S2.1 q2.1 1 8) d_Re_readHead_58 cw_Re_nextIs ml_Re_68 im_Re_nextIs se_Re_nextIs rfl r2 (by decide) rfl (Nat.le_of_ble_eq_true rfl) rfl rfl ?_
      rw [List.set_set]
      rcases Bool.eq_false_or_eq_true ((rd_nx b 1 8 (rd_nx b 1 8 (rd_kn b 2 2 x).2).2).1) with g3 | g3
      · rw [show (if (rd_nx b 1 8 (rd_nx b 1 8 (rd_kn b 2 2 x).2).2).1 = true then (1 : Int32) else 0) = 1 by rw [g3]; rfl]
        refine mj_if_eq (tgt := 73) d_Re_readHead_61 (by decide) (fun _q => absurd _q (by decide)) (fun _q => ?_)
        refine mj_aload_n d_Re_readHead_64 rfl ?_
        refine mj_iconst (v := 0) d_Re_readHead_65 (by decide) ?_
        refine mj_iconst (v := 3) d_Re_readHead_66 (by decide) ?_
        refine mj_cV (S := []) (S1 := [.int (if (rd_kn b 0 3 (rd_nx b 1 8 (rd_nx b 1 8 (rd_kn b 2 2 x).2).2).2).1 = true then 1 else 0)]) (c_Re_nextIsKnown S3.1 q3.1 0 3) d_Re_readHead_67 cw_Re_nextIsKnown ml_Re_72 im_Re_nextIsKnown se_Re_nextIsKnown rfl r3 (by decide) rfl (Nat.le_of_ble_eq_true rfl) rfl rfl ?_
        rw [List.set_set]
        rcases Bool.eq_false_or_eq_true ((rd_kn b 0 3 (rd_nx b 1 8 (rd_nx b 1 8 (rd_kn b 2 2 x).2).2).2).1) with g4 | g4
        · rw [show (if (rd_kn b 0 3 (rd_nx b 1 8 (rd_nx b 1 8 (rd_kn b 2 2 x).2).2).2).1 = true then (1 : Int32) else 0) = 1 by rw [g4]; rfl]
          refine mj_if_ne (tgt := 75) d_Re_readHead_70 (by decide) (fun _q => ?_) (fun _q => absurd _q (by decide))
          have e5 : (rd_h5 b x) = (rd_kn b 0 3 (rd_nx b 1 8 (rd_nx b 1 8 (rd_kn b 2 2 x).2).2).2) := by unfold rd_h5; rw [if_pos g1, if_pos g2, if_pos g3]
          have t5 := rd_h5_t hb f3 (x := x) (by rw [e5]; exact g4)
          rw [← e5] at r4 S4 ⊢
          have er : rd_h2 b p x = (true, rd_sc (rd_h5 b x).2 (by_h b ((rd_h5 b x).2.2.2.2 - 1)), pi_new p (by_h b ((rd_h5 b x).2.2.2.2 - 3)) (by_h b ((rd_h5 b x).2.2.2.2 - 2))) := by unfold rd_h2; rw [if_pos (by rw [e5]; exact g4)]
          obtain ⟨pl, epl⟩ : ∃ q_ : Nat, q_ = (rd_h5 b x).2.2.2.2 := ⟨_, rfl⟩
          rw [← epl] at er t5
          have r4 : (h.set 14 (rd_o (rd_h5 b x).2))[14]? = some (.inr (5, [.int (rd_h5 b x).2.1, .int (rd_h5 b x).2.2.1, .int (nI (rd_h5 b x).2.2.2.1), .ref 1, .int (nI pl)])) := by rw [epl]; exact r4
          have x1 := S4.1.1.1
          have x2 := S4.2.1.1
          have d1 := hb.at (k := pl - 1) (by omega) (by omega)
          have d2 := hb.at (k := pl - 2) (by omega) (by omega)
          have d3 := hb.at (k := pl - 3) (by omega) (by omega)
          have m3 : by_h b (pl - 3) ≤ 8 := by rw [show pl - 3 = x.2.2.2 + 1 by omega]; exact t5.2.2.1
          have m2 : by_h b (pl - 2) ≤ 8 := by rw [show pl - 2 = x.2.2.2 + 2 by omega]; exact t5.2.2.2.2.1
          refine mj_aload_n d_Re_readHead_75 rfl ?_
          refine mj_aload_n d_Re_readHead_76 rfl ?_
          refine mj_get ok_Re (k := 3) (by decide) fl_Re_20 d_Re_readHead_77 r4 rfl ?_
          refine mj_aload_n d_Re_readHead_80 rfl ?_
          refine mj_get ok_Re (k := 4) (by decide) fl_Re_24 d_Re_readHead_81 r4 rfl ?_
          refine mj_iconst (v := 3) d_Re_readHead_84 (by decide) ?_
          refine mj_isub d_Re_readHead_85 ?_
          rw [show nI pl - 3 = nI (pl - 3) from pk_sub (b := 3) (by omega)]
          refine mj_cV (S := [.ref a]) (S1 := [.int (by_get b (nI (pl - 3))), .ref a]) (c_By_at S4.1.1 (nI (pl - 3))) d_Re_readHead_86 cw_By_at ml_Re_75 im_By_at se_By_at rfl x1 (by decide) rfl (Nat.le_of_ble_eq_true rfl) rfl rfl ?_
          rw [d3.1]
          refine mj_aload_n d_Re_readHead_89 rfl ?_
          refine mj_get ok_Re (k := 3) (by decide) fl_Re_20 d_Re_readHead_90 r4 rfl ?_
          refine mj_aload_n d_Re_readHead_93 rfl ?_
          refine mj_get ok_Re (k := 4) (by decide) fl_Re_24 d_Re_readHead_94 r4 rfl ?_
          refine mj_iconst (v := 2) d_Re_readHead_97 (by decide) ?_
          refine mj_isub d_Re_readHead_98 ?_
          rw [show nI pl - 2 = nI (pl - 2) from pk_sub (b := 2) (by omega)]
          refine mj_cV (S := [.int (nI (by_h b (pl - 3))), .ref a]) (S1 := [.int (by_get b (nI (pl - 2))), .int (nI (by_h b (pl - 3))), .ref a]) (c_By_at S4.1.1 (nI (pl - 2))) d_Re_readHead_99 cw_By_at ml_Re_75 im_By_at se_By_at rfl x1 (by decide) rfl (Nat.le_of_ble_eq_true rfl) rfl rfl ?_
          rw [d2.1]
          refine mj_cV (S := []) (S1 := []) (c_Pi_startAnew S4.2.1 (w := by_h b (pl - 3)) (v := by_h b (pl - 2)) m3 m2) d_Re_readHead_102 cw_Pi_startAnew ml_Re_78 im_Pi_startAnew se_Pi_startAnew rfl x2 (by decide) rfl (Nat.le_of_ble_eq_true rfl) rfl rfl ?_
          rw [PS.ps z]
          have S5 := S.up (x' := (rd_h5 b x).2) (p' := (pi_new p (by_h b (pl - 3)) (by_h b (pl - 2)))) ⟨m3, m2, Nat.zero_le _⟩ (pi_new_ok _ _ _)
          have r5 : (ps_up h a l t s m (rd_h5 b x).2 (pi_new p (by_h b (pl - 3)) (by_h b (pl - 2))))[14]? = some (.inr (5, [.int (rd_h5 b x).2.1, .int (rd_h5 b x).2.2.1, .int (nI (rd_h5 b x).2.2.2.1), .ref 1, .int (nI pl)])) := by have q9 := S5.1.2; unfold rd_o at q9; rw [← epl] at q9; exact q9
          have x5 := S5.1.1.1
          obtain ⟨H5, e_H5⟩ : ∃ q_, q_ = ps_up h a l t s m (rd_h5 b x).2 (pi_new p (by_h b (pl - 3)) (by_h b (pl - 2))) := ⟨_, rfl⟩
          rw [← e_H5] at r5 x5 S5 ⊢
          refine mj_aload_n d_Re_readHead_105 rfl ?_
          refine mj_aload_n d_Re_readHead_106 rfl ?_
          refine mj_get ok_Re (k := 3) (by decide) fl_Re_20 d_Re_readHead_107 r5 rfl ?_
          refine mj_aload_n d_Re_readHead_110 rfl ?_
          refine mj_get ok_Re (k := 4) (by decide) fl_Re_24 d_Re_readHead_111 r5 rfl ?_
          refine mj_iconst (v := 1) d_Re_readHead_114 (by decide) ?_
          refine mj_isub d_Re_readHead_115 ?_
          rw [show nI pl - 1 = nI (pl - 1) from pk_sub (b := 1) (by omega)]
          refine mj_cV (S := [.ref 14]) (S1 := [.int (by_get b (nI (pl - 1))), .ref 14]) (c_By_at S5.1.1 (nI (pl - 1))) d_Re_readHead_116 cw_By_at ml_Re_75 im_By_at se_By_at rfl x5 (by decide) rfl (Nat.le_of_ble_eq_true rfl) rfl rfl ?_
          rw [d1.1]
          refine mj_put ok_Re (k := 2) (by decide) fl_Re_41 rfl (fun _ => rfl) (fun _ => rfl) (Nat.le_of_ble_eq_true rfl) d_Re_readHead_119 r5 ?_
          obtain ⟨hh1, e_hh1⟩ : ∃ q_ : mj_H, q_ = H5.set 14 (.inr (5, [.int (rd_h5 b x).2.1, .int (rd_h5 b x).2.2.1, .int (nI (by_h b (pl - 1))), .ref 1, .int (nI pl)])) := ⟨_, rfl⟩
          refine mj_hp e_hh1 ?_
          have k2 : hh1[14]? = some (.inr (5, [.int (rd_h5 b x).2.1, .int (rd_h5 b x).2.2.1, .int (nI (by_h b (pl - 1))), .ref 1, .int (nI pl)])) := by rw [e_hh1]; exact mj_sS r5
          have k3 := mj_sN (y := .inr (5, [.int (rd_h5 b x).2.1, .int (rd_h5 b x).2.2.1, .int (nI (by_h b (pl - 1))), .ref 1, .int (nI pl)])) (show (14 : Nat) ≠ 1 by decide) x5
          rw [← e_hh1] at k3
          refine mj_iconst (v := 1) d_Re_readHead_122 (by decide) ?_
          refine mj_zret rfl rfl d_Re_readHead_123 ⟨by rw [er]; rfl, ?_⟩
          rw [er, e_hh1, e_H5, epl]
          exact PS.pr (x2 := rd_sc (rd_h5 b x).2 (by_h b ((rd_h5 b x).2.2.2.2 - 1)))
        · rw [show (if (rd_kn b 0 3 (rd_nx b 1 8 (rd_nx b 1 8 (rd_kn b 2 2 x).2).2).2).1 = true then (1 : Int32) else 0) = 0 by rw [g4]; rfl]
          refine mj_if_ne (tgt := 75) d_Re_readHead_70 (by decide) (fun _q => absurd rfl _q) (fun _q => ?_)
          have e5 : (rd_h5 b x) = (rd_kn b 0 3 (rd_nx b 1 8 (rd_nx b 1 8 (rd_kn b 2 2 x).2).2).2) := by unfold rd_h5; rw [if_pos g1, if_pos g2, if_pos g3]
          have er : rd_h2 b p x = (false, (rd_kn b 0 3 (rd_nx b 1 8 (rd_nx b 1 8 (rd_kn b 2 2 x).2).2).2).2, p) := by unfold rd_h2; rw [e5]; exact if_neg (by rw [g4]; decide)
          refine mj_iconst (v := 0) d_Re_readHead_73 (by decide) ?_
          exact mj_zret rfl rfl d_Re_readHead_74 ⟨by rw [er]; rfl, by rw [er]; exact S.r⟩
      · rw [show (if (rd_nx b 1 8 (rd_nx b 1 8 (rd_kn b 2 2 x).2).2).1 = true then (1 : Int32) else 0) = 0 by rw [g3]; rfl]
        refine mj_if_eq (tgt := 73) d_Re_readHead_61 (by decide) (fun _q => ?_) (fun _q => absurd rfl _q)
        have e5 : (rd_h5 b x) = (false, (rd_nx b 1 8 (rd_nx b 1 8 (rd_kn b 2 2 x).2).2).2) := by unfold rd_h5; rw [if_pos g1, if_pos g2, if_neg (by rw [g3]; decide)]
        have er : rd_h2 b p x = (false, (rd_nx b 1 8 (rd_nx b 1 8 (rd_kn b 2 2 x).2).2).2, p) := by unfold rd_h2; rw [e5]; exact if_neg (by intro q; cases q)
        refine mj_iconst (v := 0) d_Re_readHead_73 (by decide) ?_
        exact mj_zret rfl rfl d_Re_readHead_74 ⟨by rw [er]; rfl, by rw [er]; exact S.r⟩
    · rw [show (if (rd_nx b 1 8 (rd_kn b 2 2 x).2).1 = true then (1 : Int32) else 0) = 0 by rw [g2]; rfl]
      refine mj_if_eq (tgt := 73) d_Re_readHead_51 (by decide) (fun _q => ?_) (fun _q => absurd rfl _q)
      have e5 : (rd_h5 b x) = (false, (rd_nx b 1 8 (rd_kn b 2 2 x).2).2) := by unfold rd_h5; rw [if_pos g1, if_neg (by rw [g2]; decide)]
      have er : rd_h2 b p x = (false, (rd_nx b 1 8 (rd_kn b 2 2 x).2).2, p) := by unfold rd_h2; rw [e5]; exact if_neg (by intro q; cases q)
      refine mj_iconst (v := 0) d_Re_readHead_73 (by decide) ?_
      exact mj_zret rfl rfl d_Re_readHead_74 ⟨by rw [er]; rfl, by rw [er]; exact S.r⟩
  · rw [show (if (rd_kn b 2 2 x).1 = true then (1 : Int32) else 0) = 0 by rw [g1]; rfl]
    refine mj_if_eq (tgt := 73) d_Re_readHead_41 (by decide) (fun _q => ?_) (fun _q => absurd rfl _q)
    have e5 : (rd_h5 b x) = (false, (rd_kn b 2 2 x).2) := by unfold rd_h5; rw [if_neg (by rw [g1]; decide)]
    have er : rd_h2 b p x = (false, (rd_kn b 2 2 x).2, p) := by unfold rd_h2; rw [e5]; exact if_neg (by intro q; cases q)
    refine mj_iconst (v := 0) d_Re_readHead_73 (by decide) ?_
    exact mj_zret rfl rfl d_Re_readHead_74 ⟨by rw [er]; rfl, by rw [er]; exact S.r⟩
set_option maxRecDepth 100000 in
set_option maxHeartbeats 4000000 in
theorem c_Re_readHead {h : mj_H} {b : by_B} {x : rd_X} {a l t s m : Nat} {p : pi_P} (S : PS h b x a l t s m p) (hb : by_ok b) (hx : x.2.2.2 ≤ b.1) : mj_Met M_Re_readHead (3, 68, none) 0 0 [.ref 14, .ref a] h (mj_q (some (.int (if (rd_hd b p x).1 = true then 1 else 0))) (ps_up h a l t s m (rd_hd b p x).2.1 (rd_hd b p x).2.2)) := by
  obtain ⟨⟨⟨f1, f2, f3, f4⟩, r0⟩, ⟨h1, h2, h3, h4, h5, ⟨n1, n2, n3, n4, n5, n6⟩, w1, w2, w3⟩, z, hok⟩ := id S
  refine mj_enter (r := 1) rfl rfl (by decide) rfl ?_
  show mj_W M_Re_readHead _ _ _ _ 0 [some (.ref 14), some (.ref a), none] [] h
  refine mj_iconst (v := 0) d_Re_readHead_0 (by decide) ?_
  refine mj_istore_n (L' := [some (.ref 14), some (.ref a), some (.int 0)]) d_Re_readHead_1 (by decide) rfl rfl ?_
  refine lp_Re_readHead 4 0 x h S.1 hx (by omega) (fun g => ?_) (fun g => ?_)
  · have S1 := S.rd (x' := (rd_mg b 4 0 x).2)
    have er : rd_hd b p x = rd_h2 b p (rd_mg b 4 0 x).2 := by unfold rd_hd rd_h2; rw [if_pos g]
    have ww := w_Re_readHead S1 hb (rd_mg_pl b 4 0 x hx).1
    rw [er]
    rw [S.r, S.pp S.bd ?_] at ww
    · rw [S.r]; exact ww
    · unfold rd_h2
      by_cases g5 : (rd_h5 b (rd_mg b 4 0 x).2).1 = true
      · rw [if_pos g5]
        have t5 := rd_h5_t hb f3 g5
        refine ⟨?_, ?_, Nat.zero_le _⟩
        · show by_h b _ ≤ 8
          rw [t5.1]; exact t5.2.2.1
        · show by_h b _ ≤ 8
          rw [t5.1]; exact t5.2.2.2.2.1
      · rw [if_neg g5]; exact S.bd
  · have er : rd_hd b p x = (false, (rd_mg b 4 0 x).2, p) := by unfold rd_hd; rw [if_neg (by rw [g]; decide)]
    exact ⟨by rw [er]; rfl, by rw [er]; exact S.r⟩
