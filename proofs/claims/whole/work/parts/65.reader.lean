theorem rd_nx_g {b : by_B} {lo hi : Int32} {x : rd_X} (h : (rd_nx b lo hi x).1 = true) : (rd_nx b lo hi x).2 = rd_go x 1 ∧ x.2.2.2 + 1 ≤ b.1 := by
  unfold rd_nx at h ⊢
  by_cases g : b.1 < x.2.2.2 + 1
  · rw [if_pos g] at h; cases h
  · rw [if_neg g] at h ⊢
    by_cases g2 : by_get b (nI x.2.2.2) < lo ∨ hi < by_get b (nI x.2.2.2)
    · rw [if_pos g2] at h; cases h
    · rw [if_neg g2]
      exact ⟨rfl, by omega⟩
def rd_c3 (b : by_B) (lo : Int32) (x : rd_X) : Bool × rd_X :=
  if (rd_nx b lo 122 x).1 = true then
    (if (rd_nx b 0 2 (rd_nx b lo 122 x).2).1 = true then rd_nx b 1 2 (rd_nx b 0 2 (rd_nx b lo 122 x).2).2 else (false, (rd_nx b 0 2 (rd_nx b lo 122 x).2).2))
  else (false, (rd_nx b lo 122 x).2)
theorem rd_c3_t {b : by_B} (hb : by_ok b) (hl : b.1 ≤ 1500) {lo : Int32} {x : rd_X} (h : (rd_c3 b lo x).1 = true) : (rd_c3 b lo x).2 = rd_go x 3 ∧ x.2.2.2 + 3 ≤ b.1 ∧ 1 ≤ by_h b (x.2.2.2 + 2) ∧ by_h b (x.2.2.2 + 2) ≤ 2 := by
  unfold rd_c3 at h ⊢
  by_cases g1 : (rd_nx b lo 122 x).1 = true
  · rw [if_pos g1] at h ⊢
    obtain ⟨a1, a2⟩ := rd_nx_g g1
    rw [a1] at h ⊢
    by_cases g2 : (rd_nx b 0 2 (rd_go x 1)).1 = true
    · rw [if_pos g2] at h ⊢
      obtain ⟨b1, b2⟩ := rd_nx_g g2
      rw [b1] at h ⊢
      obtain ⟨c1, c2, c3, c4⟩ := rd_nx_t hb hl (lo := 1) (hi := 2) (by decide) (by decide) h
      exact ⟨c1, c2, c3, c4⟩
    · rw [if_neg g2] at h; cases h
  · rw [if_neg g1] at h; cases h
theorem rd_c3_pl {b : by_B} {lo : Int32} {x : rd_X} (h : x.2.2.2 ≤ b.1) : (rd_c3 b lo x).2.2.2.2 ≤ b.1 ∧ (rd_c3 b lo x).2.2.2.1 = x.2.2.1 := by
  have q1 := rd_nx_pl b lo 122 x h
  have q2 := rd_nx_pl b 0 2 _ q1.1
  have q3 := rd_nx_pl b 1 2 _ q2.1
  unfold rd_c3
  split
  · split
    · exact ⟨q3.1, q3.2.trans (q2.2.trans q1.2)⟩
    · exact ⟨q2.1, q2.2.trans q1.2⟩
  · exact q1
def rd_chP (b : by_B) (x : rd_X) (p : pi_P) : pi_P := pi_add p (nI (by_h b x.2.2.2)) (nI (by_h b (x.2.2.2 + 1))) (nI (by_h b (x.2.2.2 + 2)))
def rd_chL (b : by_B) : Nat → rd_X → pi_P → Bool × rd_X × pi_P
  | 0, x, p => (true, x, p)
  | j + 1, x, p => if (rd_c3 b (pi_lst p) x).1 = true then rd_chL b j (rd_c3 b (pi_lst p) x).2 (rd_chP b x p) else (false, (rd_c3 b (pi_lst p) x).2, p)
def rd_chs (b : by_B) (p : pi_P) (x : rd_X) : Bool × rd_X × pi_P := if (rd_nx b 1 3 x).1 = true then rd_chL b (by_h b x.2.2.2) (rd_nx b 1 3 x).2 p else (false, (rd_nx b 1 3 x).2, p)
theorem pi_add_bd {p : pi_P} {x y z : Int32} (h : pi_bd p) : pi_bd (pi_add p x y z) := by
  unfold pi_add
  split
  · exact ⟨h.1, h.2.1, by show p.2.2.1 + 1 ≤ 3; omega⟩
  · exact h
theorem pi_add_ok {p : pi_P} {x y : Int32} {s : Nat} (h : pi_ok p) (h1 : 1 ≤ s) (h2 : s ≤ 2) : pi_ok (pi_add p x y (nI s)) := by
  unfold pi_add
  split
  · intro c hc
    have hc' : c < p.2.2.1 + 1 := hc
    show upd p.2.2.2.2.2.1 p.2.2.1 (nI s) c = 1 ∨ upd p.2.2.2.2.2.1 p.2.2.1 (nI s) c = 2
    unfold upd
    split
    · rcases (show s = 1 ∨ s = 2 by omega) with q | q
      · subst q; exact Or.inl rfl
      · subst q; exact Or.inr rfl
    · exact h c (by omega)
  · exact h
theorem rd_chL_in {b : by_B} (hb : by_ok b) (hl : b.1 ≤ 1500) : ∀ (j : Nat) (x : rd_X) (p : pi_P), x.2.2.2 ≤ b.1 → pi_bd p → pi_ok p → pi_bd (rd_chL b j x p).2.2 ∧ pi_ok (rd_chL b j x p).2.2 ∧ (rd_chL b j x p).2.1.2.2.2 ≤ b.1 ∧ (rd_chL b j x p).2.1.2.2.1 = x.2.2.1 ∧ (rd_chL b j x p).2.2.1 = p.1 ∧ (rd_chL b j x p).2.2.2.1 = p.2.1
  | 0, _, _, h1, h2, h3 => ⟨h2, h3, h1, rfl, rfl, rfl⟩
  | j + 1, x, p, h1, h2, h3 => by
    unfold rd_chL
    have q := rd_c3_pl (b := b) (lo := pi_lst p) h1
    by_cases g : (rd_c3 b (pi_lst p) x).1 = true
    · rw [if_pos g]
      have t := rd_c3_t hb hl g
      obtain ⟨i1, i2, i3, i4, i5, i6⟩ := rd_chL_in hb hl j (rd_c3 b (pi_lst p) x).2 (rd_chP b x p) q.1 (pi_add_bd h2) (pi_add_ok h3 t.2.2.1 t.2.2.2)
      have e1 : (rd_chP b x p).1 = p.1 := by unfold rd_chP pi_add; split <;> rfl
      have e2 : (rd_chP b x p).2.1 = p.2.1 := by unfold rd_chP pi_add; split <;> rfl
      exact ⟨i1, i2, i3, i4.trans q.2, i5.trans e1, i6.trans e2⟩
    · rw [if_neg g]
      exact ⟨h2, h3, q.1, q.2, rfl, rfl⟩
set_option maxRecDepth 100000 in
set_option maxHeartbeats 4000000 in
theorem lp_Re_readChannels {a l t s m n : Nat} {b : by_B} (hb : by_ok b) (hn : n ≤ 3) : ∀ (j i : Nat) (x : rd_X) (p : pi_P) (h : mj_H), PS h b x a l t s m p → x.2.2.2 ≤ b.1 → i + j = n → mj_W M_Re_readChannels (mj_q (some (.int (if (rd_chL b j x p).1 = true then 1 else 0))) (ps_up h a l t s m (rd_chL b j x p).2.1 (rd_chL b j x p).2.2)) (2, 44, none) 0 0 27 [some (.ref 14), some (.ref a), some (.int (nI n)), some (.int (nI i))] [] h := by
  intro j
  induction j with
  | zero =>
    intro i x p h S hx hi
    obtain ⟨⟨⟨f1, f2, f3, f4⟩, r0⟩, ⟨h1, h2, h3, h4, h5, ⟨n1, n2, n3, n4, n5, n6⟩, w1, w2, w3⟩, z, hok⟩ := id S
    refine mj_iload_n d_Re_readChannels_27 rfl ?_
    refine mj_iload_n d_Re_readChannels_28 rfl ?_
    refine mj_icmp_ge (tgt := 114) d_Re_readChannels_29 (by decide) (fun c_29 => ?_) (fun c_29 => ?_)
    · refine mj_iconst (v := 1) d_Re_readChannels_114 (by decide) ?_
      exact mj_zret rfl rfl d_Re_readChannels_115 ⟨rfl, S.idn.symm⟩
    · exact absurd (nI_le (by omega) (by omega)) c_29
  | succ j ih =>
    intro i x p h S hx hi
    obtain ⟨⟨⟨f1, f2, f3, f4⟩, r0⟩, ⟨h1, h2, h3, h4, h5, ⟨n1, n2, n3, n4, n5, n6⟩, w1, w2, w3⟩, z, hok⟩ := id S
    have q1 := rd_nx_pl b (pi_lst p) 122 x hx
    have S1 := S.rd (x' := (rd_nx b (pi_lst p) 122 x).2)
    have r1 := S1.1.2
    have q2 := rd_nx_pl b 0 2 (rd_nx b (pi_lst p) 122 x).2 q1.1
    have S2 := S.rd (x' := (rd_nx b 0 2 (rd_nx b (pi_lst p) 122 x).2).2)
    have r2 := S2.1.2
    have q3 := rd_nx_pl b 1 2 (rd_nx b 0 2 (rd_nx b (pi_lst p) 122 x).2).2 q2.1
    have S3 := S.rd (x' := (rd_nx b 1 2 (rd_nx b 0 2 (rd_nx b (pi_lst p) 122 x).2).2).2)
    have r3 := S3.1.2
    refine mj_iload_n d_Re_readChannels_27 rfl ?_
    refine mj_iload_n d_Re_readChannels_28 rfl ?_
    refine mj_icmp_ge (tgt := 114) d_Re_readChannels_29 (by decide) (fun c_29 => ?_) (fun c_29 => ?_)
    · exact absurd c_29 (nI_ge (by omega) (by omega))
    · refine mj_aload_n d_Re_readChannels_32 rfl ?_
      refine mj_aload_n d_Re_readChannels_33 rfl ?_
      refine mj_cV (S := [.ref 14]) (S1 := [.int (pi_lst p), .ref 14]) (c_Pi_leastLetter S.2.1) d_Re_readChannels_34 cw_Pi_leastLetter ml_Re_82 im_Pi_leastLetter se_Pi_leastLetter rfl h1 (by decide) rfl (Nat.le_of_ble_eq_true rfl) rfl rfl ?_
      refine mj_bipush (v := 122) d_Re_readChannels_37 (by decide) ?_
      refine mj_cV (S := []) (S1 := [.int (if (rd_nx b (pi_lst p) 122 x).1 = true then 1 else 0)]) (c_Re_nextIs S.1 hx (pi_lst p) 122) d_Re_readChannels_39 cw_Re_nextIs ml_Re_68 im_Re_nextIs se_Re_nextIs rfl r0 (by decide) rfl (Nat.le_of_ble_eq_true rfl) rfl rfl ?_
      rcases Bool.eq_false_or_eq_true ((rd_nx b (pi_lst p) 122 x).1) with g1 | g1
      · rw [show (if (rd_nx b (pi_lst p) 122 x).1 = true then (1 : Int32) else 0) = 1 by rw [g1]; rfl]
        refine mj_if_eq (tgt := 63) d_Re_readChannels_42 (by decide) (fun _q => absurd _q (by decide)) (fun _q => ?_)
        refine mj_aload_n d_Re_readChannels_45 rfl ?_
        refine mj_iconst (v := 0) d_Re_readChannels_46 (by decide) ?_
        refine mj_iconst (v := 2) d_Re_readChannels_47 (by decide) ?_
        refine mj_cV (S := []) (S1 := [.int (if (rd_nx b 0 2 (rd_nx b (pi_lst p) 122 x).2).1 = true then 1 else 0)]) (c_Re_nextIs S1.1 q1.1 0 2) d_Re_readChannels_48 cw_Re_nextIs ml_Re_68 im_Re_nextIs se_Re_nextIs rfl r1 (by decide) rfl (Nat.le_of_ble_eq_true rfl) rfl rfl ?_
        rw [List.set_set]
        rcases Bool.eq_false_or_eq_true ((rd_nx b 0 2 (rd_nx b (pi_lst p) 122 x).2).1) with g2 | g2
        · rw [show (if (rd_nx b 0 2 (rd_nx b (pi_lst p) 122 x).2).1 = true then (1 : Int32) else 0) = 1 by rw [g2]; rfl]
          refine mj_if_eq (tgt := 63) d_Re_readChannels_51 (by decide) (fun _q => absurd _q (by decide)) (fun _q => ?_)
          refine mj_aload_n d_Re_readChannels_54 rfl ?_
          refine mj_iconst (v := 1) d_Re_readChannels_55 (by decide) ?_
          refine mj_iconst (v := 2) d_Re_readChannels_56 (by decide) ?_
          refine mj_cV (S := []) (S1 := [.int (if (rd_nx b 1 2 (rd_nx b 0 2 (rd_nx b (pi_lst p) 122 x).2).2).1 = true then 1 else 0)]) (c_Re_nextIs S2.1 q2.1 1 2) d_Re_readChannels_57 cw_Re_nextIs ml_Re_68 im_Re_nextIs se_Re_nextIs rfl r2 (by decide) rfl (Nat.le_of_ble_eq_true rfl) rfl rfl ?_
          rw [List.set_set]
          rcases Bool.eq_false_or_eq_true ((rd_nx b 1 2 (rd_nx b 0 2 (rd_nx b (pi_lst p) 122 x).2).2).1) with g3 | g3
          · rw [show (if (rd_nx b 1 2 (rd_nx b 0 2 (rd_nx b (pi_lst p) 122 x).2).2).1 = true then (1 : Int32) else 0) = 1 by rw [g3]; rfl]
            refine mj_if_ne (tgt := 65) d_Re_readChannels_60 (by decide) (fun _q => ?_) (fun _q => absurd _q (by decide))
            have e5 : (rd_c3 b (pi_lst p) x) = (rd_nx b 1 2 (rd_nx b 0 2 (rd_nx b (pi_lst p) 122 x).2).2) := by unfold rd_c3; rw [if_pos g1, if_pos g2]
            have g5 : (rd_c3 b (pi_lst p) x).1 = true := by rw [e5]; exact g3
            have t5 := rd_c3_t hb f3 g5
            rw [← e5] at S3 r3 ⊢
            rw [t5.1] at S3 r3 ⊢
            have x1 := S3.1.1.1
            have x2 := S3.2.1.1
            have d3 := hb.at (k := x.2.2.2) (by omega) (by omega)
            have d2 := hb.at (k := x.2.2.2 + 1) (by omega) (by omega)
            have d1 := hb.at (k := x.2.2.2 + 2) (by omega) (by omega)
            have er : rd_chL b (j + 1) x p = rd_chL b j (rd_go x 3) (rd_chP b x p) := by rw [rd_chL, if_pos g5, t5.1]
            refine mj_aload_n d_Re_readChannels_65 rfl ?_
            refine mj_aload_n d_Re_readChannels_66 rfl ?_
            refine mj_get ok_Re (k := 3) (by decide) fl_Re_20 d_Re_readChannels_67 r3 rfl ?_
            refine mj_aload_n d_Re_readChannels_70 rfl ?_
            refine mj_get ok_Re (k := 4) (by decide) fl_Re_24 d_Re_readChannels_71 r3 rfl ?_
            refine mj_iconst (v := 3) d_Re_readChannels_74 (by decide) ?_
            refine mj_isub d_Re_readChannels_75 ?_
            rw [show nI (rd_go x 3).2.2.2 - 3 = nI (x.2.2.2) from pk_sub (a := x.2.2.2 + 3) (b := 3) (by omega)]
            refine mj_cV (S := [.ref a]) (S1 := [.int (by_get b (nI (x.2.2.2))), .ref a]) (c_By_at S3.1.1 (nI (x.2.2.2))) d_Re_readChannels_76 cw_By_at ml_Re_75 im_By_at se_By_at rfl x1 (by decide) rfl (Nat.le_of_ble_eq_true rfl) rfl rfl ?_
            rw [d3.1]
            refine mj_aload_n d_Re_readChannels_79 rfl ?_
            refine mj_get ok_Re (k := 3) (by decide) fl_Re_20 d_Re_readChannels_80 r3 rfl ?_
            refine mj_aload_n d_Re_readChannels_83 rfl ?_
            refine mj_get ok_Re (k := 4) (by decide) fl_Re_24 d_Re_readChannels_84 r3 rfl ?_
            refine mj_iconst (v := 2) d_Re_readChannels_87 (by decide) ?_
            refine mj_isub d_Re_readChannels_88 ?_
            rw [show nI (rd_go x 3).2.2.2 - 2 = nI (x.2.2.2 + 1) from pk_sub (a := x.2.2.2 + 3) (b := 2) (by omega)]
            refine mj_cV (S := [.int (nI (by_h b (x.2.2.2))), .ref a]) (S1 := [.int (by_get b (nI (x.2.2.2 + 1))), .int (nI (by_h b (x.2.2.2))), .ref a]) (c_By_at S3.1.1 (nI (x.2.2.2 + 1))) d_Re_readChannels_89 cw_By_at ml_Re_75 im_By_at se_By_at rfl x1 (by decide) rfl (Nat.le_of_ble_eq_true rfl) rfl rfl ?_
            rw [d2.1]
            refine mj_aload_n d_Re_readChannels_92 rfl ?_
            refine mj_get ok_Re (k := 3) (by decide) fl_Re_20 d_Re_readChannels_93 r3 rfl ?_
            refine mj_aload_n d_Re_readChannels_96 rfl ?_
            refine mj_get ok_Re (k := 4) (by decide) fl_Re_24 d_Re_readChannels_97 r3 rfl ?_
            refine mj_iconst (v := 1) d_Re_readChannels_100 (by decide) ?_
            refine mj_isub d_Re_readChannels_101 ?_
            rw [show nI (rd_go x 3).2.2.2 - 1 = nI (x.2.2.2 + 2) from pk_sub (a := x.2.2.2 + 3) (b := 1) (by omega)]
            refine mj_cV (S := [.int (nI (by_h b (x.2.2.2 + 1))), .int (nI (by_h b (x.2.2.2))), .ref a]) (S1 := [.int (by_get b (nI (x.2.2.2 + 2))), .int (nI (by_h b (x.2.2.2 + 1))), .int (nI (by_h b (x.2.2.2))), .ref a]) (c_By_at S3.1.1 (nI (x.2.2.2 + 2))) d_Re_readChannels_102 cw_By_at ml_Re_75 im_By_at se_By_at rfl x1 (by decide) rfl (Nat.le_of_ble_eq_true rfl) rfl rfl ?_
            rw [d1.1]
            refine mj_cV (S := []) (S1 := []) (c_Pi_addChannel S3.2.1 (nI (by_h b x.2.2.2)) (nI (by_h b (x.2.2.2 + 1))) (nI (by_h b (x.2.2.2 + 2)))) d_Re_readChannels_105 cw_Pi_addChannel ml_Re_86 im_Pi_addChannel se_Pi_addChannel rfl x2 (by decide) rfl (Nat.le_of_ble_eq_true rfl) rfl rfl ?_
            rw [PS.ps z]
            obtain ⟨v1, e_v1⟩ : ∃ q_ : Int32, q_ = (nI i) + 1 := ⟨_, rfl⟩
            refine mj_iinc (x := (nI i)) (v := v1) (L' := [some (.ref 14), some (.ref a), some (.int (nI n)), some (.int v1)]) d_Re_readChannels_108 rfl (by rw [e_v1]; rfl) (by decide) rfl rfl ?_
            refine mj_goto (tgt := 27) d_Re_readChannels_111 (by decide) ?_
            rw [e_v1, nI_1]
            have bd1 : pi_bd (rd_chP b x p) := pi_add_bd S.bd
            have ok1 : pi_ok (rd_chP b x p) := pi_add_ok hok t5.2.2.1 t5.2.2.2
            have S5 := S.up (x' := rd_go x 3) bd1 ok1
            have ww := ih (i + 1) (rd_go x 3) (rd_chP b x p) _ S5 t5.2.1 (by omega)
            rw [S.pp bd1 (rd_chL_in hb f3 j _ _ t5.2.1 bd1 ok1).1] at ww
            rw [er]
            exact ww
          · rw [show (if (rd_nx b 1 2 (rd_nx b 0 2 (rd_nx b (pi_lst p) 122 x).2).2).1 = true then (1 : Int32) else 0) = 0 by rw [g3]; rfl]
            refine mj_if_ne (tgt := 65) d_Re_readChannels_60 (by decide) (fun _q => absurd rfl _q) (fun _q => ?_)
            have e5 : (rd_c3 b (pi_lst p) x) = (rd_nx b 1 2 (rd_nx b 0 2 (rd_nx b (pi_lst p) 122 x).2).2) := by unfold rd_c3; rw [if_pos g1, if_pos g2]
            have er : rd_chL b (j + 1) x p = (false, (rd_nx b 1 2 (rd_nx b 0 2 (rd_nx b (pi_lst p) 122 x).2).2).2, p) := by rw [rd_chL, e5]; exact if_neg (by rw [g3]; decide)
            refine mj_iconst (v := 0) d_Re_readChannels_63 (by decide) ?_
            exact mj_zret rfl rfl d_Re_readChannels_64 ⟨by rw [er]; rfl, by rw [er]; exact S.r⟩
        · rw [show (if (rd_nx b 0 2 (rd_nx b (pi_lst p) 122 x).2).1 = true then (1 : Int32) else 0) = 0 by rw [g2]; rfl]
          refine mj_if_eq (tgt := 63) d_Re_readChannels_51 (by decide) (fun _q => ?_) (fun _q => absurd rfl _q)
          have e5 : (rd_c3 b (pi_lst p) x) = (false, (rd_nx b 0 2 (rd_nx b (pi_lst p) 122 x).2).2) := by unfold rd_c3; rw [if_pos g1, if_neg (by rw [g2]; decide)]
          have er : rd_chL b (j + 1) x p = (false, (rd_nx b 0 2 (rd_nx b (pi_lst p) 122 x).2).2, p) := by rw [rd_chL, e5]; exact if_neg (by intro q; cases q)
          refine mj_iconst (v := 0) d_Re_readChannels_63 (by decide) ?_
          exact mj_zret rfl rfl d_Re_readChannels_64 ⟨by rw [er]; rfl, by rw [er]; exact S.r⟩
      · rw [show (if (rd_nx b (pi_lst p) 122 x).1 = true then (1 : Int32) else 0) = 0 by rw [g1]; rfl]
        refine mj_if_eq (tgt := 63) d_Re_readChannels_42 (by decide) (fun _q => ?_) (fun _q => absurd rfl _q)
        have e5 : (rd_c3 b (pi_lst p) x) = (false, (rd_nx b (pi_lst p) 122 x).2) := by unfold rd_c3; rw [if_neg (by rw [g1]; decide)]
        have er : rd_chL b (j + 1) x p = (false, (rd_nx b (pi_lst p) 122 x).2, p) := by rw [rd_chL, e5]; exact if_neg (by intro q; cases q)
        refine mj_iconst (v := 0) d_Re_readChannels_63 (by decide) ?_
        exact mj_zret rfl rfl d_Re_readChannels_64 ⟨by rw [er]; rfl, by rw [er]; exact S.r⟩
set_option maxRecDepth 100000 in
set_option maxHeartbeats 4000000 in
theorem c_Re_readChannels {h : mj_H} {b : by_B} {x : rd_X} {a l t s m : Nat} {p : pi_P} (S : PS h b x a l t s m p) (hb : by_ok b) (hx : x.2.2.2 ≤ b.1) : mj_Met M_Re_readChannels (2, 44, none) 0 0 [.ref 14, .ref a] h (mj_q (some (.int (if (rd_chs b p x).1 = true then 1 else 0))) (ps_up h a l t s m (rd_chs b p x).2.1 (rd_chs b p x).2.2)) := by
  obtain ⟨⟨⟨f1, f2, f3, f4⟩, r0⟩, ⟨h1, h2, h3, h4, h5, ⟨n1, n2, n3, n4, n5, n6⟩, w1, w2, w3⟩, z, hok⟩ := id S
  have S1 := S.rd (x' := (rd_nx b 1 3 x).2)
  have r1 := S1.1.2
  have q1 := rd_nx_pl b 1 3 x hx
  refine mj_enter (r := 2) rfl rfl (by decide) rfl ?_
  show mj_W M_Re_readChannels _ _ _ _ 0 [some (.ref 14), some (.ref a), none, none] [] h
  refine mj_aload_n d_Re_readChannels_0 rfl ?_
  refine mj_iconst (v := 1) d_Re_readChannels_1 (by decide) ?_
  refine mj_iconst (v := 3) d_Re_readChannels_2 (by decide) ?_
  refine mj_cV (S := []) (S1 := [.int (if (rd_nx b 1 3 x).1 = true then 1 else 0)]) (c_Re_nextIs S.1 hx 1 3) d_Re_readChannels_3 cw_Re_nextIs ml_Re_68 im_Re_nextIs se_Re_nextIs rfl r0 (by decide) rfl (Nat.le_of_ble_eq_true rfl) rfl rfl ?_
  rcases Bool.eq_false_or_eq_true ((rd_nx b 1 3 x).1) with g1 | g1
  · rw [show (if (rd_nx b 1 3 x).1 = true then (1 : Int32) else 0) = 1 by rw [g1]; rfl]
    refine mj_if_ne (tgt := 11) d_Re_readChannels_6 (by decide) (fun _q => ?_) (fun _q => absurd _q (by decide))
    have t1 := rd_nx_t hb f3 (lo := 1) (hi := 3) (by decide) (by decide) (x := x) g1
    have t2 : (rd_nx b 1 3 x).2 = rd_go x 1 := t1.1
    have er : rd_chs b p x = rd_chL b (by_h b x.2.2.2) (rd_go x 1) p := by unfold rd_chs; rw [if_pos g1, t2]
    rw [t2] at S1 r1 ⊢
    have x1 := S1.1.1.1
    have d1 := hb.at (k := x.2.2.2) (by omega) (by omega)
    refine mj_aload_n d_Re_readChannels_11 rfl ?_
    refine mj_get ok_Re (k := 3) (by decide) fl_Re_20 d_Re_readChannels_12 r1 rfl ?_
    refine mj_aload_n d_Re_readChannels_15 rfl ?_
    refine mj_get ok_Re (k := 4) (by decide) fl_Re_24 d_Re_readChannels_16 r1 rfl ?_
    refine mj_iconst (v := 1) d_Re_readChannels_19 (by decide) ?_
    refine mj_isub d_Re_readChannels_20 ?_
    rw [show nI (rd_go x 1).2.2.2 - 1 = nI x.2.2.2 from pk_sub (a := x.2.2.2 + 1) (b := 1) (by omega)]
    refine mj_cV (S := []) (S1 := [.int (by_get b (nI x.2.2.2))]) (c_By_at S1.1.1 (nI x.2.2.2)) d_Re_readChannels_21 cw_By_at ml_Re_75 im_By_at se_By_at rfl x1 (by decide) rfl (Nat.le_of_ble_eq_true rfl) rfl rfl ?_
    rw [d1.1]
    refine mj_istore_n (L' := [some (.ref 14), some (.ref a), some (.int (nI (by_h b x.2.2.2))), none]) d_Re_readChannels_24 (by decide) rfl rfl ?_
    refine mj_iconst (v := 0) d_Re_readChannels_25 (by decide) ?_
    refine mj_istore_n (L' := [some (.ref 14), some (.ref a), some (.int (nI (by_h b x.2.2.2))), some (.int 0)]) d_Re_readChannels_26 (by decide) rfl rfl ?_
    have ww := lp_Re_readChannels hb (n := by_h b x.2.2.2) t1.2.2.2 (by_h b x.2.2.2) 0 (rd_go x 1) p _ S1 t1.2.1 (by omega)
    rw [S.r, S.pp S.bd (rd_chL_in hb f3 _ _ _ t1.2.1 S.bd hok).1] at ww
    rw [er, S.r]
    exact ww
  · rw [show (if (rd_nx b 1 3 x).1 = true then (1 : Int32) else 0) = 0 by rw [g1]; rfl]
    refine mj_if_ne (tgt := 11) d_Re_readChannels_6 (by decide) (fun _q => absurd rfl _q) (fun _q => ?_)
    have er : rd_chs b p x = (false, (rd_nx b 1 3 x).2, p) := by unfold rd_chs; rw [if_neg (by rw [g1]; decide)]
    refine mj_iconst (v := 0) d_Re_readChannels_9 (by decide) ?_
    exact mj_zret rfl rfl d_Re_readChannels_10 ⟨by rw [er]; rfl, by rw [er]; exact S.r⟩
