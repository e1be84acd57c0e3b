set_option maxRecDepth 100000 in
set_option maxHeartbeats 4000000 in
theorem lp_Re_readTable {a n : Nat} {b : by_B} (hn : n ≤ 8) : ∀ (j i : Nat) (D : Int32) (x : rd_X) (h : mj_H), Rd h b x → x.2.2.2 ≤ b.1 → i + j = n → mj_W M_Re_readTable (mj_q (some (.int (if (rd_tb b j D x).1 = true then 1 else 0))) (h.set 14 (rd_o (rd_tb b j D x).2))) (3, 64, none) 0 0 21 [some (.ref 14), some (.ref a), some (.int (nI n)), some (.int D), some (.int (nI i))] [] h := by
  intro j
  induction j with
  | zero =>
    intro i D x h R hx hi
    obtain ⟨⟨f1, f2, f3, f4⟩, r0⟩ := id R
    refine mj_iload d_Re_readTable_21 rfl ?_
    refine mj_iload_n d_Re_readTable_23 rfl ?_
    refine mj_icmp_ge (tgt := 95) d_Re_readTable_24 (by decide) (fun c_24 => ?_) (fun c_24 => ?_)
    · refine mj_iconst (v := 1) d_Re_readTable_95 (by decide) ?_
      exact mj_zret rfl rfl d_Re_readTable_96 ⟨rfl, (mj_sE r0).symm⟩
    · exact absurd (nI_le (by omega) (by omega)) c_24
  | succ j ih =>
    intro i D x h R hx hi
    obtain ⟨⟨f1, f2, f3, f4⟩, r0⟩ := id R
    refine mj_iload d_Re_readTable_21 rfl ?_
    refine mj_iload_n d_Re_readTable_23 rfl ?_
    refine mj_icmp_ge (tgt := 95) d_Re_readTable_24 (by decide) (fun c_24 => ?_) (fun c_24 => ?_)
    · exact absurd c_24 (nI_ge (by omega) (by omega))
    · refine mj_aload_n d_Re_readTable_27 rfl ?_
      refine mj_iconst (v := 2) d_Re_readTable_28 (by decide) ?_
      by_cases l29 : b.1 < x.2.2.2 + 2
      · have R29 := R.up (x' := rd_fl x (nI b.1))
        have r29 := R29.2
        refine mj_cV (S := []) (S1 := [.int 1]) (c_Re_lacks1 R hx (n := 2) (by omega) l29) d_Re_readTable_29 cw_Re_lacks ml_Re_90 im_Re_lacks se_Re_lacks rfl r0 (by decide) rfl (Nat.le_of_ble_eq_true rfl) rfl rfl ?_
        refine mj_if_eq (tgt := 37) d_Re_readTable_32 (by decide) (fun _q => absurd _q (by decide)) (fun _q => ?_)
        have er : rd_tb b (j + 1) D x = (false, rd_fl x (nI b.1)) := by rw [rd_tb, if_pos l29]
        refine mj_iconst (v := 0) d_Re_readTable_35 (by decide) ?_
        exact mj_zret rfl rfl d_Re_readTable_36 ⟨by rw [er]; rfl, by rw [er]⟩
      · refine mj_cV (S := []) (S1 := [.int 0]) (c_Re_lacks0 R hx (n := 2) (by omega) l29) d_Re_readTable_29 cw_Re_lacks ml_Re_90 im_Re_lacks se_Re_lacks rfl r0 (by decide) rfl (Nat.le_of_ble_eq_true rfl) rfl rfl ?_
        refine mj_if_eq (tgt := 37) d_Re_readTable_32 (by decide) (fun _q => ?_) (fun _q => absurd rfl _q)
        refine mj_iload_n d_Re_readTable_37 rfl ?_
        refine mj_if_lt (tgt := 65) d_Re_readTable_38 (by decide) (fun c_38 => ?_) (fun c_38 => ?_)
        · refine mj_iload_n d_Re_readTable_65 rfl ?_
          refine mj_if_ge (tgt := 73) d_Re_readTable_66 (by decide) (fun c_66 => ?_) (fun c_66 => ?_)
          · exact absurd c_38 (mj_nl c_66)
          · refine mj_iload_n d_Re_readTable_69 rfl ?_
            refine mj_goto (tgt := 78) d_Re_readTable_70 (by decide) ?_
            refine mj_istore_n (L' := [some (.ref 14), some (.ref a), some (.int (nI n)), some (.int D), some (.int (nI i))]) d_Re_readTable_78 (by decide) rfl rfl ?_
            refine mj_aload_n d_Re_readTable_79 rfl ?_
            refine mj_dup d_Re_readTable_80 rfl ?_
            refine mj_get ok_Re (k := 4) (by decide) fl_Re_24 d_Re_readTable_81 r0 rfl ?_
            refine mj_iconst (v := 2) d_Re_readTable_84 (by decide) ?_
            refine mj_iadd d_Re_readTable_85 ?_
            refine mj_topi (fun v1 e_v1 => ?_)
            refine mj_put ok_Re (k := 4) (by decide) fl_Re_24 rfl (fun _ => rfl) (fun _ => rfl) (Nat.le_of_ble_eq_true rfl) d_Re_readTable_86 r0 ?_
            obtain ⟨hh2, e_hh2⟩ : ∃ q_ : mj_H, q_ = h.set 14 (.inr (5, [.int x.1, .int x.2.1, .int (nI x.2.2.1), .ref 1, .int v1])) := ⟨_, rfl⟩
            refine mj_hp e_hh2 ?_
            have k3 : hh2[14]? = some (.inr (5, [.int x.1, .int x.2.1, .int (nI x.2.2.1), .ref 1, .int v1])) := by rw [e_hh2]; exact mj_sS r0
            have k4 := mj_sN (y := .inr (5, [.int x.1, .int x.2.1, .int (nI x.2.2.1), .ref 1, .int v1])) (show (14 : Nat) ≠ 1 by decide) f1
            rw [← e_hh2] at k4
            have k5 := mj_sN (y := .inr (5, [.int x.1, .int x.2.1, .int (nI x.2.2.1), .ref 1, .int v1])) (show (14 : Nat) ≠ 2 by decide) f2
            rw [← e_hh2] at k5
            obtain ⟨v6, e_v6⟩ : ∃ q_ : Int32, q_ = (nI i) + 1 := ⟨_, rfl⟩
            refine mj_iinc (x := (nI i)) (v := v6) (L' := [some (.ref 14), some (.ref a), some (.int (nI n)), some (.int D), some (.int v6)]) d_Re_readTable_89 rfl (by rw [e_v6]; rfl) (by decide) rfl rfl ?_
            refine mj_goto (tgt := 21) d_Re_readTable_92 (by decide) ?_
            rw [e_v6, nI_1]
            have eh : hh2 = h.set 14 (rd_o (rd_go x 2)) := by rw [e_hh2, e_v1, show nI x.2.2.2 + 2 = nI (x.2.2.2 + 2) from nI_add _ 2]; rfl
            have er : rd_tb b (j + 1) D x = rd_tb b j D (rd_go x 2) := by rw [rd_tb, if_neg l29, if_neg (fun q => q.1 c_38), if_pos c_38]
            rw [er, eh, show h.set 14 (rd_o (rd_tb b j D (rd_go x 2)).2) = (h.set 14 (rd_o (rd_go x 2))).set 14 (rd_o (rd_tb b j D (rd_go x 2)).2) by rw [List.set_set]]
            exact ih (i + 1) D (rd_go x 2) _ R.up (by show x.2.2.2 + 2 ≤ b.1; omega) (by omega)
        · refine mj_aload_n d_Re_readTable_41 rfl ?_
          refine mj_get ok_Re (k := 3) (by decide) fl_Re_20 d_Re_readTable_42 r0 rfl ?_
          refine mj_aload_n d_Re_readTable_45 rfl ?_
          refine mj_get ok_Re (k := 4) (by decide) fl_Re_24 d_Re_readTable_46 r0 rfl ?_
          refine mj_cV (S := []) (S1 := [.int (by_two b (nI x.2.2.2))]) (c_By_twoAt R.1 _) d_Re_readTable_49 cw_By_twoAt ml_Re_93 im_By_twoAt se_By_twoAt rfl f1 (by decide) rfl (Nat.le_of_ble_eq_true rfl) rfl rfl ?_
          refine mj_iload_n d_Re_readTable_52 rfl ?_
          refine mj_icmp_eq (tgt := 65) d_Re_readTable_53 (by decide) (fun c_53 => ?_) (fun c_53 => ?_)
          · refine mj_iload_n d_Re_readTable_65 rfl ?_
            refine mj_if_ge (tgt := 73) d_Re_readTable_66 (by decide) (fun c_66 => ?_) (fun c_66 => ?_)
            · refine mj_aload_n d_Re_readTable_73 rfl ?_
              refine mj_iload_n d_Re_readTable_74 rfl ?_
              refine mj_cV (S := []) (S1 := [.int (rd_bh b D)]) (c_Re_behindChunk R D) d_Re_readTable_75 cw_Re_behindChunk ml_Re_96 im_Re_behindChunk se_Re_behindChunk rfl r0 (by decide) rfl (Nat.le_of_ble_eq_true rfl) rfl rfl ?_
              refine mj_topi (fun v7 e_v7 => ?_)
              refine mj_istore_n (L' := [some (.ref 14), some (.ref a), some (.int (nI n)), some (.int v7), some (.int (nI i))]) d_Re_readTable_78 (by decide) rfl rfl ?_
              refine mj_aload_n d_Re_readTable_79 rfl ?_
              refine mj_dup d_Re_readTable_80 rfl ?_
              refine mj_get ok_Re (k := 4) (by decide) fl_Re_24 d_Re_readTable_81 r0 rfl ?_
              refine mj_iconst (v := 2) d_Re_readTable_84 (by decide) ?_
              refine mj_iadd d_Re_readTable_85 ?_
              refine mj_topi (fun v8 e_v8 => ?_)
              refine mj_put ok_Re (k := 4) (by decide) fl_Re_24 rfl (fun _ => rfl) (fun _ => rfl) (Nat.le_of_ble_eq_true rfl) d_Re_readTable_86 r0 ?_
              obtain ⟨hh9, e_hh9⟩ : ∃ q_ : mj_H, q_ = h.set 14 (.inr (5, [.int x.1, .int x.2.1, .int (nI x.2.2.1), .ref 1, .int v8])) := ⟨_, rfl⟩
              refine mj_hp e_hh9 ?_
              have k10 : hh9[14]? = some (.inr (5, [.int x.1, .int x.2.1, .int (nI x.2.2.1), .ref 1, .int v8])) := by rw [e_hh9]; exact mj_sS r0
              have k11 := mj_sN (y := .inr (5, [.int x.1, .int x.2.1, .int (nI x.2.2.1), .ref 1, .int v8])) (show (14 : Nat) ≠ 1 by decide) f1
              rw [← e_hh9] at k11
              have k12 := mj_sN (y := .inr (5, [.int x.1, .int x.2.1, .int (nI x.2.2.1), .ref 1, .int v8])) (show (14 : Nat) ≠ 2 by decide) f2
              rw [← e_hh9] at k12
              obtain ⟨v13, e_v13⟩ : ∃ q_ : Int32, q_ = (nI i) + 1 := ⟨_, rfl⟩
              refine mj_iinc (x := (nI i)) (v := v13) (L' := [some (.ref 14), some (.ref a), some (.int (nI n)), some (.int v7), some (.int v13)]) d_Re_readTable_89 rfl (by rw [e_v13]; rfl) (by decide) rfl rfl ?_
              refine mj_goto (tgt := 21) d_Re_readTable_92 (by decide) ?_
              rw [e_v13, nI_1]
              have eh : hh9 = h.set 14 (rd_o (rd_go x 2)) := by rw [e_hh9, e_v8, show nI x.2.2.2 + 2 = nI (x.2.2.2 + 2) from nI_add _ 2]; rfl
              have er : rd_tb b (j + 1) D x = rd_tb b j v7 (rd_go x 2) := by rw [rd_tb, if_neg l29, if_neg (fun q => q.2 c_53), if_neg c_38, e_v7]
              rw [er, eh, show h.set 14 (rd_o (rd_tb b j v7 (rd_go x 2)).2) = (h.set 14 (rd_o (rd_go x 2))).set 14 (rd_o (rd_tb b j v7 (rd_go x 2)).2) by rw [List.set_set]]
              exact ih (i + 1) v7 (rd_go x 2) _ R.up (by show x.2.2.2 + 2 ≤ b.1; omega) (by omega)
            · exact absurd (mj_lt c_66) c_38
          · refine mj_aload_n d_Re_readTable_56 rfl ?_
            refine mj_aload_n d_Re_readTable_57 rfl ?_
            refine mj_get ok_Re (k := 4) (by decide) fl_Re_24 d_Re_readTable_58 r0 rfl ?_
            have er : rd_tb b (j + 1) D x = (false, rd_fl x (nI x.2.2.2)) := by rw [rd_tb, if_neg l29]; exact if_pos ⟨c_38, c_53⟩
            refine mj_cV (S := []) (S1 := [.int 0]) (c_Re_failsAt R _) d_Re_readTable_61 cw_Re_failsAt ml_Re_60 im_Re_failsAt se_Re_failsAt rfl r0 (by decide) rfl (Nat.le_of_ble_eq_true rfl) rfl rfl ?_
            exact mj_zret rfl rfl d_Re_readTable_64 ⟨by rw [er]; rfl, by rw [er]⟩
def rd_tab (b : by_B) (p : pi_P) (x : rd_X) : Bool × rd_X := rd_tb b (pi_chs p x.2.2.1) (nI x.2.2.2 + 2 * nI (pi_chs p x.2.2.1)) x
set_option maxRecDepth 100000 in
set_option maxHeartbeats 4000000 in
theorem c_Re_readTable {h : mj_H} {b : by_B} {x : rd_X} (R : Rd h b x) {a l t s m : Nat} {p : pi_P} (P : Pi h a l t s m p) (hk : x.2.2.1 < 4) (hx : x.2.2.2 ≤ b.1) : mj_Met M_Re_readTable (3, 64, none) 0 0 [.ref 14, .ref a] h (mj_q (some (.int (if (rd_tab b p x).1 = true then 1 else 0))) (h.set 14 (rd_o (rd_tab b p x).2))) := by
  obtain ⟨⟨f1, f2, f3, f4⟩, r0⟩ := id R
  obtain ⟨h1, h2, h3, h4, h5, ⟨n1, n2, n3, n4, n5, n6⟩, w1, w2, w3⟩ := id P
  refine mj_enter (r := 3) rfl rfl (by decide) rfl ?_
  show mj_W M_Re_readTable _ _ _ _ 0 [some (.ref 14), some (.ref a), none, none, none] [] h
  refine mj_aload_n d_Re_readTable_0 rfl ?_
  refine mj_aload_n d_Re_readTable_1 rfl ?_
  refine mj_get ok_Re (k := 2) (by decide) fl_Re_41 d_Re_readTable_2 r0 rfl ?_
  refine mj_cV (S := []) (S1 := [.int (nI (pi_chs p x.2.2.1))]) (c_Pi_chunks P (k := x.2.2.1) hk) d_Re_readTable_5 cw_Pi_chunks ml_Re_44 im_Pi_chunks se_Pi_chunks rfl h1 (by decide) rfl (Nat.le_of_ble_eq_true rfl) rfl rfl ?_
  refine mj_istore_n (L' := [some (.ref 14), some (.ref a), some (.int (nI (pi_chs p x.2.2.1))), none, none]) d_Re_readTable_8 (by decide) rfl rfl ?_
  refine mj_aload_n d_Re_readTable_9 rfl ?_
  refine mj_get ok_Re (k := 4) (by decide) fl_Re_24 d_Re_readTable_10 r0 rfl ?_
  refine mj_iconst (v := 2) d_Re_readTable_13 (by decide) ?_
  refine mj_iload_n d_Re_readTable_14 rfl ?_
  refine mj_imul d_Re_readTable_15 ?_
  refine mj_iadd d_Re_readTable_16 ?_
  refine mj_topi (fun v1 e_v1 => ?_)
  refine mj_istore_n (L' := [some (.ref 14), some (.ref a), some (.int (nI (pi_chs p x.2.2.1))), some (.int v1), none]) d_Re_readTable_17 (by decide) rfl rfl ?_
  refine mj_iconst (v := 0) d_Re_readTable_18 (by decide) ?_
  refine mj_istore (L' := [some (.ref 14), some (.ref a), some (.int (nI (pi_chs p x.2.2.1))), some (.int v1), some (.int 0)]) d_Re_readTable_19 (by decide) rfl rfl ?_
  have hch : pi_chs p x.2.2.1 ≤ 8 := by unfold pi_chs; split <;> omega
  unfold rd_tab
  rw [← e_v1]
  exact lp_Re_readTable hch (pi_chs p x.2.2.1) 0 v1 x h R hx (by omega)
def rd_mg (b : by_B) : Nat → Nat → rd_X → Bool × rd_X
  | 0, _, x => (true, x)
  | j + 1, k, x => if (rd_nx b (mj_mg k) (mj_mg k) x).1 = true then rd_mg b j (k + 1) (rd_nx b (mj_mg k) (mj_mg k) x).2 else (false, (rd_nx b (mj_mg k) (mj_mg k) x).2)
theorem rd_mg_pl (b : by_B) : ∀ (j k : Nat) (x : rd_X), x.2.2.2 ≤ b.1 → (rd_mg b j k x).2.2.2.2 ≤ b.1 ∧ (rd_mg b j k x).2.2.2.1 = x.2.2.1
  | 0, _, _, h => ⟨h, rfl⟩
  | j + 1, k, x, h => by
    unfold rd_mg
    have q := rd_nx_pl b (mj_mg k) (mj_mg k) x h
    split
    · have q2 := rd_mg_pl b j (k + 1) _ q.1
      exact ⟨q2.1, q2.2.trans q.2⟩
    · exact q
/-- the five bytes behind the magic ones -/
def rd_h5 (b : by_B) (x : rd_X) : Bool × rd_X :=
  if (rd_kn b 2 2 x).1 = true then
    (if (rd_nx b 1 8 (rd_kn b 2 2 x).2).1 = true then
      (if (rd_nx b 1 8 (rd_nx b 1 8 (rd_kn b 2 2 x).2).2).1 = true then rd_kn b 0 3 (rd_nx b 1 8 (rd_nx b 1 8 (rd_kn b 2 2 x).2).2).2 else (false, (rd_nx b 1 8 (rd_nx b 1 8 (rd_kn b 2 2 x).2).2).2))
    else (false, (rd_nx b 1 8 (rd_kn b 2 2 x).2).2))
  else (false, (rd_kn b 2 2 x).2)
def rd_sc (x : rd_X) (k : Nat) : rd_X := (x.1, x.2.1, k, x.2.2.2)
def rd_hd (b : by_B) (p : pi_P) (x : rd_X) : Bool × rd_X × pi_P :=
  if (rd_mg b 4 0 x).1 = true then
    (if (rd_h5 b (rd_mg b 4 0 x).2).1 = true then (true, rd_sc (rd_h5 b (rd_mg b 4 0 x).2).2 (by_h b ((rd_h5 b (rd_mg b 4 0 x).2).2.2.2.2 - 1)), pi_new p (by_h b ((rd_h5 b (rd_mg b 4 0 x).2).2.2.2.2 - 3)) (by_h b ((rd_h5 b (rd_mg b 4 0 x).2).2.2.2.2 - 2)))
    else (false, (rd_h5 b (rd_mg b 4 0 x).2).2, p))
  else (false, (rd_mg b 4 0 x).2, p)
/-- what a good step tells of the byte -/
theorem rd_nx_t {b : by_B} (hb : by_ok b) (hl : b.1 ≤ 1500) {lo hi : Nat} (hlo : lo < 256) (hhi : hi < 256) {x : rd_X} (h : (rd_nx b (nI lo) (nI hi) x).1 = true) : (rd_nx b (nI lo) (nI hi) x).2 = rd_go x 1 ∧ x.2.2.2 + 1 ≤ b.1 ∧ lo ≤ by_h b x.2.2.2 ∧ by_h b x.2.2.2 ≤ hi := by
  unfold rd_nx at h ⊢
  by_cases g : b.1 < x.2.2.2 + 1
  · rw [if_pos g] at h; cases h
  · rw [if_neg g] at h ⊢
    obtain ⟨e, hv⟩ := hb.at (k := x.2.2.2) (by omega) (by omega)
    by_cases g2 : by_get b (nI x.2.2.2) < nI lo ∨ nI hi < by_get b (nI x.2.2.2)
    · rw [if_pos g2] at h; cases h
    · rw [if_neg g2]
      rw [e, nI_ltI (by omega) (by omega), nI_ltI (by omega) (by omega)] at g2
      exact ⟨rfl, by omega, by omega, by omega⟩
theorem rd_kn_t {b : by_B} (hb : by_ok b) (hl : b.1 ≤ 1500) {lo hi : Nat} (hlo : lo < 256) (hhi : hi < 256) {x : rd_X} (h : (rd_kn b (nI lo) (nI hi) x).1 = true) : (rd_kn b (nI lo) (nI hi) x).2.2.2.2 = x.2.2.2 + 1 ∧ x.2.2.2 + 1 ≤ b.1 ∧ lo ≤ by_h b x.2.2.2 ∧ by_h b x.2.2.2 ≤ hi := by
  obtain ⟨h1, h2⟩ := rd_nx_t hb hl hlo hhi (x := x) h
  refine ⟨?_, h2⟩
  show (rd_nx b (nI lo) (nI hi) x).2.2.2.2 = _
  rw [h1]
  rfl
theorem rd_h5_t {b : by_B} (hb : by_ok b) (hl : b.1 ≤ 1500) {x : rd_X} (h : (rd_h5 b x).1 = true) : (rd_h5 b x).2.2.2.2 = x.2.2.2 + 4 ∧ x.2.2.2 + 4 ≤ b.1 ∧ by_h b (x.2.2.2 + 1) ≤ 8 ∧ 1 ≤ by_h b (x.2.2.2 + 1) ∧ by_h b (x.2.2.2 + 2) ≤ 8 ∧ 1 ≤ by_h b (x.2.2.2 + 2) ∧ by_h b (x.2.2.2 + 3) ≤ 3 := by
  unfold rd_h5 at h ⊢
  by_cases g1 : (rd_kn b 2 2 x).1 = true
  · rw [if_pos g1] at h ⊢
    obtain ⟨a1, a2, a3, a4⟩ := rd_kn_t hb hl (lo := 2) (hi := 2) (by decide) (by decide) g1
    by_cases g2 : (rd_nx b 1 8 (rd_kn b 2 2 x).2).1 = true
    · rw [if_pos g2] at h ⊢
      obtain ⟨b1, b2, b3, b4⟩ := rd_nx_t hb hl (lo := 1) (hi := 8) (by decide) (by decide) g2
      by_cases g3 : (rd_nx b 1 8 (rd_nx b 1 8 (rd_kn b 2 2 x).2).2).1 = true
      · rw [if_pos g3] at h ⊢
        obtain ⟨c1, c2, c3, c4⟩ := rd_nx_t hb hl (lo := 1) (hi := 8) (by decide) (by decide) g3
        obtain ⟨d1, d2, d3, d4⟩ := rd_kn_t hb hl (lo := 0) (hi := 3) (by decide) (by decide) h
        have eb : (rd_nx b 1 8 (rd_kn b 2 2 x).2).2.2.2.2 = x.2.2.2 + 2 := by
          rw [show (rd_nx b 1 8 (rd_kn b 2 2 x).2).2 = rd_go (rd_kn b 2 2 x).2 1 from b1]
          show (rd_kn b (nI 2) (nI 2) x).2.2.2.2 + 1 = _
          rw [a1]
        have ec : (rd_nx b 1 8 (rd_nx b 1 8 (rd_kn b 2 2 x).2).2).2.2.2.2 = x.2.2.2 + 3 := by
          rw [show (rd_nx b 1 8 (rd_nx b 1 8 (rd_kn b 2 2 x).2).2).2 = rd_go (rd_nx b 1 8 (rd_kn b 2 2 x).2).2 1 from c1]
          show (rd_nx b 1 8 (rd_kn b 2 2 x).2).2.2.2.2 + 1 = _
          rw [eb]
        have ea : (rd_kn b 2 2 x).2.2.2.2 = x.2.2.2 + 1 := a1
        rw [ea] at b3 b4 b2
        rw [eb] at c2 c3 c4
        rw [ec] at d2 d4
        refine ⟨?_, by omega, b4, b3, c4, c3, d4⟩
        have := d1
        rw [ec] at this
        exact this
      · rw [if_neg g3] at h; cases h
    · rw [if_neg g2] at h; cases h
  · rw [if_neg g1] at h; cases h
theorem rd_h5_pl {b : by_B} {x : rd_X} (h : x.2.2.2 ≤ b.1) : (rd_h5 b x).2.2.2.2 ≤ b.1 ∧ (rd_h5 b x).2.2.2.1 = x.2.2.1 := by
  have q1 := rd_kn_pl b 2 2 x h
  have q2 := rd_nx_pl b 1 8 _ q1.1
  have q3 := rd_nx_pl b 1 8 _ q2.1
  have q4 := rd_kn_pl b 0 3 _ q3.1
  unfold rd_h5
  split
  · split
    · split
      · exact ⟨q4.1, q4.2.trans (q3.2.trans (q2.2.trans q1.2))⟩
      · exact ⟨q3.1, q3.2.trans (q2.2.trans q1.2)⟩
    · exact ⟨q2.1, q2.2.trans q1.2⟩
  · exact q1
set_option maxRecDepth 100000 in
set_option maxHeartbeats 4000000 in
theorem lp_Re_readHead {Q : mj_E → mj_H → Prop} {a kc ks : Nat} {b : by_B} : ∀ (j i : Nat) (x : rd_X) (h : mj_H), Rd h b x → x.2.2.2 ≤ b.1 → i + j = 4 → ((rd_mg b j i x).1 = true → mj_W M_Re_readHead Q (3, 68, none) kc ks 35 [some (.ref 14), some (.ref a), none] [] (h.set 14 (rd_o (rd_mg b j i x).2))) → ((rd_mg b j i x).1 = false → Q (.inl (some (.int 0))) (h.set 14 (rd_o (rd_mg b j i x).2))) → mj_W M_Re_readHead Q (3, 68, none) kc ks 2 [some (.ref 14), some (.ref a), some (.int (nI i))] [] h := by
  intro j
  induction j with
  | zero =>
    intro i x h R hx hi kt kf
    obtain ⟨⟨f1, f2, f3, f4⟩, r0⟩ := id R
    refine mj_iload_n d_Re_readHead_2 rfl ?_
    refine mj_mags d_Re_readHead_3 fn_Re_64 ?_
    refine mj_xlen (v := 4) mj_hxM d_Re_readHead_6 rfl ?_
    refine mj_icmp_ge (tgt := 35) d_Re_readHead_7 (by decide) (fun c_7 => ?_) (fun c_7 => ?_)
    · refine mj_fg 2 (L' := [some (.ref 14), some (.ref a), none]) rfl ?_
      refine mj_hp (mj_sE r0) (kt rfl)
    · exact absurd (nI_le (a := 4) (b := i) (by omega) (by omega)) c_7
  | succ j ih =>
    intro i x h R hx hi kt kf
    obtain ⟨⟨f1, f2, f3, f4⟩, r0⟩ := id R
    refine mj_iload_n d_Re_readHead_2 rfl ?_
    refine mj_mags d_Re_readHead_3 fn_Re_64 ?_
    refine mj_xlen (v := 4) mj_hxM d_Re_readHead_6 rfl ?_
    refine mj_icmp_ge (tgt := 35) d_Re_readHead_7 (by decide) (fun c_7 => ?_) (fun c_7 => ?_)
    · exact absurd c_7 (nI_ge (a := i) (b := 4) (by omega) (by omega))
    · refine mj_aload_n d_Re_readHead_10 rfl ?_
      refine mj_mags d_Re_readHead_11 fn_Re_64 ?_
      refine mj_iload_n d_Re_readHead_14 rfl ?_
      refine mj_xald mj_hxM d_Re_readHead_15 (vp_in_nI (by omega) (by decide)) ?_
      refine mj_mags d_Re_readHead_16 fn_Re_64 ?_
      refine mj_iload_n d_Re_readHead_19 rfl ?_
      refine mj_xald mj_hxM d_Re_readHead_20 (vp_in_nI (by omega) (by decide)) ?_
      rw [nI_clamp (by omega)]
      have R1 := R.up (x' := (rd_nx b (mj_mg i) (mj_mg i) x).2)
      refine mj_cV (S := []) (S1 := [.int (if (rd_nx b (mj_mg i) (mj_mg i) x).1 = true then 1 else 0)]) (c_Re_nextIs R hx (mj_mg i) (mj_mg i)) d_Re_readHead_21 cw_Re_nextIs ml_Re_68 im_Re_nextIs se_Re_nextIs rfl r0 (by decide) rfl (Nat.le_of_ble_eq_true rfl) rfl rfl ?_
      rcases Bool.eq_false_or_eq_true ((rd_nx b (mj_mg i) (mj_mg i) x).1) with eb | eb
      · rw [show (if (rd_nx b (mj_mg i) (mj_mg i) x).1 = true then (1 : Int32) else 0) = 1 by rw [eb]; rfl]
        refine mj_if_ne (tgt := 29) d_Re_readHead_24 (by decide) (fun _q => ?_) (fun _q => absurd _q (by decide))
        obtain ⟨v1, e_v1⟩ : ∃ q_ : Int32, q_ = (nI i) + 1 := ⟨_, rfl⟩
        refine mj_iinc (x := (nI i)) (v := v1) (L' := [some (.ref 14), some (.ref a), some (.int v1)]) d_Re_readHead_29 rfl (by rw [e_v1]; rfl) (by decide) rfl rfl ?_
        refine mj_goto (tgt := 2) d_Re_readHead_32 (by decide) ?_
        rw [e_v1, nI_1]
        have er : rd_mg b (j + 1) i x = rd_mg b j (i + 1) (rd_nx b (mj_mg i) (mj_mg i) x).2 := by rw [rd_mg, if_pos eb]
        rw [er] at kt kf
        exact ih (i + 1) (rd_nx b (mj_mg i) (mj_mg i) x).2 _ R1 (rd_nx_pl _ _ _ _ hx).1 (by omega) (by rw [List.set_set]; exact kt) (by rw [List.set_set]; exact kf)
      · rw [show (if (rd_nx b (mj_mg i) (mj_mg i) x).1 = true then (1 : Int32) else 0) = 0 by rw [eb]; rfl]
        refine mj_if_ne (tgt := 29) d_Re_readHead_24 (by decide) (fun _q => absurd rfl _q) (fun _q => ?_)
        refine mj_iconst (v := 0) d_Re_readHead_27 (by decide) ?_
        have er : rd_mg b (j + 1) i x = (false, (rd_nx b (mj_mg i) (mj_mg i) x).2) := by rw [rd_mg, if_neg (by rw [eb]; decide)]
        rw [er] at kf
        exact mj_zret rfl rfl d_Re_readHead_28 (kf rfl)
