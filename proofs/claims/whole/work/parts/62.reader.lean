/-! Reader: fault, unknown, scheme, place; its source is the file -/
abbrev rd_X : Type := Int32 × Int32 × Nat × Nat
def rd_o (x : rd_X) : mj_C := .inr (5, [.int x.1, .int x.2.1, .int (nI x.2.2.1), .ref 1, .int (nI x.2.2.2)])
def Rd (h : mj_H) (b : by_B) (x : rd_X) : Prop := By h 1 2 1500 b ∧ h[14]? = some (rd_o x)
def rd_fl (x : rd_X) (v : Int32) : rd_X := (v, x.2.1, x.2.2.1, x.2.2.2)
def rd_go (x : rd_X) (n : Nat) : rd_X := (x.1, x.2.1, x.2.2.1, x.2.2.2 + n)
def rd_un (x : rd_X) (v : Int32) : rd_X := (x.1, v, x.2.2.1, x.2.2.2)
theorem Rd.up {h : mj_H} {b : by_B} {x x' : rd_X} (R : Rd h b x) : Rd (h.set 14 (rd_o x')) b x' := ⟨⟨mj_sN (by decide) R.1.1, mj_sN (by decide) R.1.2.1, R.1.2.2⟩, mj_sS R.2⟩
theorem Rd.pi {h : mj_H} {a l t s m : Nat} {p : pi_P} {x' : rd_X} (P : Pi h a l t s m p) (z : 17 ≤ a ∧ 17 ≤ l ∧ 17 ≤ t ∧ 17 ≤ s ∧ 17 ≤ m) : Pi (h.set 14 (rd_o x')) a l t s m p := P.via z (fun i hi => List.getElem?_set_ne (by omega))
def rd_nx (b : by_B) (lo hi : Int32) (x : rd_X) : Bool × rd_X := if b.1 < x.2.2.2 + 1 then (false, rd_fl x (nI b.1)) else if by_get b (nI x.2.2.2) < lo ∨ hi < by_get b (nI x.2.2.2) then (false, rd_fl x (nI x.2.2.2)) else (true, rd_go x 1)
def rd_kn (b : by_B) (lo hi : Int32) (x : rd_X) : Bool × rd_X := ((rd_nx b lo hi x).1, rd_un (rd_nx b lo hi x).2 (if x.2.2.2 < b.1 ∧ (rd_nx b lo hi x).1 = false then 1 else 0))
def rd_bh (b : by_B) (D : Int32) : Int32 := if nI b.1 < D + 3 + by_two b (D + 1) then -1 else D + 3 + by_two b (D + 1)
def rd_tb (b : by_B) : Nat → Int32 → rd_X → Bool × rd_X
  | 0, _, x => (true, x)
  | j + 1, D, x => if b.1 < x.2.2.2 + 2 then (false, rd_fl x (nI b.1)) else if ¬ D < 0 ∧ ¬ by_two b (nI x.2.2.2) = D then (false, rd_fl x (nI x.2.2.2)) else rd_tb b j (if D < 0 then D else rd_bh b D) (rd_go x 2)
theorem rd_nx_pl (b : by_B) (lo hi : Int32) (x : rd_X) (h : x.2.2.2 ≤ b.1) : (rd_nx b lo hi x).2.2.2.2 ≤ b.1 ∧ (rd_nx b lo hi x).2.2.2.1 = x.2.2.1 := by
  unfold rd_nx rd_fl rd_go
  split
  · exact ⟨h, rfl⟩
  · split
    · exact ⟨h, rfl⟩
    · exact ⟨by show x.2.2.2 + 1 ≤ b.1; omega, rfl⟩
theorem rd_kn_pl (b : by_B) (lo hi : Int32) (x : rd_X) (h : x.2.2.2 ≤ b.1) : (rd_kn b lo hi x).2.2.2.2 ≤ b.1 ∧ (rd_kn b lo hi x).2.2.2.1 = x.2.2.1 := rd_nx_pl b lo hi x h
theorem rd_tb_pl (b : by_B) : ∀ (j : Nat) (D : Int32) (x : rd_X), x.2.2.2 ≤ b.1 → (rd_tb b j D x).2.2.2.2 ≤ b.1 ∧ (rd_tb b j D x).2.2.2.1 = x.2.2.1
  | 0, _, _, h => ⟨h, rfl⟩
  | j + 1, D, x, h => by
    unfold rd_tb
    split
    · exact ⟨h, rfl⟩
    · split
      · exact ⟨h, rfl⟩
      · exact rd_tb_pl b j _ (rd_go x 2) (by show x.2.2.2 + 2 ≤ b.1; omega)
set_option maxRecDepth 100000 in
set_option maxHeartbeats 4000000 in
theorem c_Re_failsAt {h : mj_H} {b : by_B} {x : rd_X} (R : Rd h b x) (v : Int32) : mj_Met M_Re_failsAt (0, 0, none) 0 0 [.ref 14, .int v] h (mj_q (some (.int 0)) (h.set 14 (rd_o (rd_fl x v)))) := by
  obtain ⟨⟨f1, f2, f3, f4⟩, r0⟩ := id R
  refine mj_enter (r := 0) rfl rfl (by decide) rfl ?_
  show mj_W M_Re_failsAt _ _ _ _ 0 [some (.ref 14), some (.int v)] [] h
  refine mj_aload_n d_Re_failsAt_0 rfl ?_
  refine mj_iload_n d_Re_failsAt_1 rfl ?_
  refine mj_put ok_Re (k := 0) (by decide) fl_Re_9 rfl (fun _ => rfl) (fun _ => rfl) (Nat.le_of_ble_eq_true rfl) d_Re_failsAt_2 r0 ?_
  obtain ⟨hh1, e_hh1⟩ : ∃ q_ : mj_H, q_ = h.set 14 (.inr (5, [.int v, .int x.2.1, .int (nI x.2.2.1), .ref 1, .int (nI x.2.2.2)])) := ⟨_, rfl⟩
  refine mj_hp e_hh1 ?_
  have k2 : hh1[14]? = some (.inr (5, [.int v, .int x.2.1, .int (nI x.2.2.1), .ref 1, .int (nI x.2.2.2)])) := by rw [e_hh1]; exact mj_sS r0
  have k3 := mj_sN (y := .inr (5, [.int v, .int x.2.1, .int (nI x.2.2.1), .ref 1, .int (nI x.2.2.2)])) (show (14 : Nat) ≠ 1 by decide) f1
  rw [← e_hh1] at k3
  have k4 := mj_sN (y := .inr (5, [.int v, .int x.2.1, .int (nI x.2.2.1), .ref 1, .int (nI x.2.2.2)])) (show (14 : Nat) ≠ 2 by decide) f2
  rw [← e_hh1] at k4
  refine mj_iconst (v := 0) d_Re_failsAt_5 (by decide) ?_
  exact mj_zret rfl rfl d_Re_failsAt_6 ⟨rfl, e_hh1⟩
set_option maxRecDepth 100000 in
set_option maxHeartbeats 4000000 in
theorem c_Re_lacks0 {h : mj_H} {b : by_B} {x : rd_X} (R : Rd h b x) (hx : x.2.2.2 ≤ b.1) {n : Nat} (hn : n < 2 ^ 30) (hl : ¬ b.1 < x.2.2.2 + n) : mj_Met M_Re_lacks (0, 0, none) 0 0 [.ref 14, .int (nI n)] h (mj_q (some (.int 0)) (h)) := by
  obtain ⟨⟨f1, f2, f3, f4⟩, r0⟩ := id R
  refine mj_enter (r := 0) rfl rfl (by decide) rfl ?_
  show mj_W M_Re_lacks _ _ _ _ 0 [some (.ref 14), some (.int (nI n))] [] h
  refine mj_aload_n d_Re_lacks_0 rfl ?_
  refine mj_get ok_Re (k := 4) (by decide) fl_Re_24 d_Re_lacks_1 r0 rfl ?_
  refine mj_iload_n d_Re_lacks_4 rfl ?_
  refine mj_iadd d_Re_lacks_5 ?_
  refine mj_aload_n d_Re_lacks_6 rfl ?_
  refine mj_get ok_Re (k := 3) (by decide) fl_Re_20 d_Re_lacks_7 r0 rfl ?_
  refine mj_get ok_By (k := 1) (by decide) fl_Re_57 d_Re_lacks_10 f1 rfl ?_
  rw [nI_add]
  refine mj_icmp_gt (tgt := 18) d_Re_lacks_13 (by decide) (fun c_13 => ?_) (fun c_13 => ?_)
  · exact absurd ((nI_ltI (by omega) (by omega)).mp c_13) hl
  · refine mj_iconst (v := 0) d_Re_lacks_16 (by decide) ?_
    exact mj_zret rfl rfl d_Re_lacks_17 ⟨rfl, rfl⟩
set_option maxRecDepth 100000 in
set_option maxHeartbeats 4000000 in
theorem c_Re_lacks1 {h : mj_H} {b : by_B} {x : rd_X} (R : Rd h b x) (hx : x.2.2.2 ≤ b.1) {n : Nat} (hn : n < 2 ^ 30) (hl : b.1 < x.2.2.2 + n) : mj_Met M_Re_lacks (0, 0, none) 0 0 [.ref 14, .int (nI n)] h (mj_q (some (.int 1)) (h.set 14 (rd_o (rd_fl x (nI b.1))))) := by
  obtain ⟨⟨f1, f2, f3, f4⟩, r0⟩ := id R
  refine mj_enter (r := 0) rfl rfl (by decide) rfl ?_
  show mj_W M_Re_lacks _ _ _ _ 0 [some (.ref 14), some (.int (nI n))] [] h
  refine mj_aload_n d_Re_lacks_0 rfl ?_
  refine mj_get ok_Re (k := 4) (by decide) fl_Re_24 d_Re_lacks_1 r0 rfl ?_
  refine mj_iload_n d_Re_lacks_4 rfl ?_
  refine mj_iadd d_Re_lacks_5 ?_
  refine mj_aload_n d_Re_lacks_6 rfl ?_
  refine mj_get ok_Re (k := 3) (by decide) fl_Re_20 d_Re_lacks_7 r0 rfl ?_
  refine mj_get ok_By (k := 1) (by decide) fl_Re_57 d_Re_lacks_10 f1 rfl ?_
  rw [nI_add]
  refine mj_icmp_gt (tgt := 18) d_Re_lacks_13 (by decide) (fun c_13 => ?_) (fun c_13 => ?_)
  · refine mj_aload_n d_Re_lacks_18 rfl ?_
    refine mj_aload_n d_Re_lacks_19 rfl ?_
    refine mj_get ok_Re (k := 3) (by decide) fl_Re_20 d_Re_lacks_20 r0 rfl ?_
    refine mj_get ok_By (k := 1) (by decide) fl_Re_57 d_Re_lacks_23 f1 rfl ?_
    refine mj_put ok_Re (k := 0) (by decide) fl_Re_9 rfl (fun _ => rfl) (fun _ => rfl) (Nat.le_of_ble_eq_true rfl) d_Re_lacks_26 r0 ?_
    obtain ⟨hh1, e_hh1⟩ : ∃ q_ : mj_H, q_ = h.set 14 (.inr (5, [.int (nI b.1), .int x.2.1, .int (nI x.2.2.1), .ref 1, .int (nI x.2.2.2)])) := ⟨_, rfl⟩
    refine mj_hp e_hh1 ?_
    have k2 : hh1[14]? = some (.inr (5, [.int (nI b.1), .int x.2.1, .int (nI x.2.2.1), .ref 1, .int (nI x.2.2.2)])) := by rw [e_hh1]; exact mj_sS r0
    have k3 := mj_sN (y := .inr (5, [.int (nI b.1), .int x.2.1, .int (nI x.2.2.1), .ref 1, .int (nI x.2.2.2)])) (show (14 : Nat) ≠ 1 by decide) f1
    rw [← e_hh1] at k3
    have k4 := mj_sN (y := .inr (5, [.int (nI b.1), .int x.2.1, .int (nI x.2.2.1), .ref 1, .int (nI x.2.2.2)])) (show (14 : Nat) ≠ 2 by decide) f2
    rw [← e_hh1] at k4
    refine mj_iconst (v := 1) d_Re_lacks_29 (by decide) ?_
    exact mj_zret rfl rfl d_Re_lacks_30 ⟨rfl, e_hh1⟩
  · exact absurd ((nI_ltI (by omega) (by omega)).mpr hl) c_13
set_option maxRecDepth 100000 in
set_option maxHeartbeats 4000000 in
theorem c_Re_nextIs {h : mj_H} {b : by_B} {x : rd_X} (R : Rd h b x) (hx : x.2.2.2 ≤ b.1) (lo hi : Int32) : mj_Met M_Re_nextIs (1, 21, none) 0 0 [.ref 14, .int lo, .int hi] h (mj_q (some (.int (if (rd_nx b lo hi x).1 = true then 1 else 0))) (h.set 14 (rd_o (rd_nx b lo hi x).2))) := by
  obtain ⟨⟨f1, f2, f3, f4⟩, r0⟩ := id R
  refine mj_enter (r := 1) rfl rfl (by decide) rfl ?_
  show mj_W M_Re_nextIs _ _ _ _ 0 [some (.ref 14), some (.int lo), some (.int hi), none] [] h
  refine mj_aload_n d_Re_nextIs_0 rfl ?_
  refine mj_iconst (v := 1) d_Re_nextIs_1 (by decide) ?_
  by_cases l2 : b.1 < x.2.2.2 + 1
  · have R2 := R.up (x' := rd_fl x (nI b.1))
    have r2 := R2.2
    refine mj_cV (S := []) (S1 := [.int 1]) (c_Re_lacks1 R hx (n := 1) (by omega) l2) d_Re_nextIs_2 cw_Re_lacks ml_Re_90 im_Re_lacks se_Re_lacks rfl r0 (by decide) rfl (Nat.le_of_ble_eq_true rfl) rfl rfl ?_
    refine mj_if_eq (tgt := 10) d_Re_nextIs_5 (by decide) (fun _q => absurd _q (by decide)) (fun _q => ?_)
    have er : rd_nx b lo hi x = (false, rd_fl x (nI b.1)) := by unfold rd_nx; exact if_pos l2
    refine mj_iconst (v := 0) d_Re_nextIs_8 (by decide) ?_
    exact mj_zret rfl rfl d_Re_nextIs_9 ⟨by rw [er]; rfl, by rw [er]⟩
  · refine mj_cV (S := []) (S1 := [.int 0]) (c_Re_lacks0 R hx (n := 1) (by omega) l2) d_Re_nextIs_2 cw_Re_lacks ml_Re_90 im_Re_lacks se_Re_lacks rfl r0 (by decide) rfl (Nat.le_of_ble_eq_true rfl) rfl rfl ?_
    refine mj_if_eq (tgt := 10) d_Re_nextIs_5 (by decide) (fun _q => ?_) (fun _q => absurd rfl _q)
    refine mj_aload_n d_Re_nextIs_10 rfl ?_
    refine mj_get ok_Re (k := 3) (by decide) fl_Re_20 d_Re_nextIs_11 r0 rfl ?_
    refine mj_aload_n d_Re_nextIs_14 rfl ?_
    refine mj_get ok_Re (k := 4) (by decide) fl_Re_24 d_Re_nextIs_15 r0 rfl ?_
    refine mj_cV (S := []) (S1 := [.int (by_get b (nI x.2.2.2))]) (c_By_at R.1 _) d_Re_nextIs_18 cw_By_at ml_Re_75 im_By_at se_By_at rfl f1 (by decide) rfl (Nat.le_of_ble_eq_true rfl) rfl rfl ?_
    refine mj_topi (fun v1 e_v1 => ?_)
    refine mj_istore_n (L' := [some (.ref 14), some (.int lo), some (.int hi), some (.int v1)]) d_Re_nextIs_21 (by decide) rfl rfl ?_
    refine mj_iload_n d_Re_nextIs_22 rfl ?_
    refine mj_iload_n d_Re_nextIs_23 rfl ?_
    refine mj_icmp_lt (tgt := 32) d_Re_nextIs_24 (by decide) (fun c_24 => ?_) (fun c_24 => ?_)
    · rw [e_v1] at c_24
      have er : rd_nx b lo hi x = (false, rd_fl x (nI x.2.2.2)) := by unfold rd_nx; rw [if_neg l2]; exact if_pos (Or.inl (c_24))
      refine mj_aload_n d_Re_nextIs_32 rfl ?_
      refine mj_aload_n d_Re_nextIs_33 rfl ?_
      refine mj_get ok_Re (k := 4) (by decide) fl_Re_24 d_Re_nextIs_34 r0 rfl ?_
      refine mj_cV (S := []) (S1 := [.int 0]) (c_Re_failsAt R _) d_Re_nextIs_37 cw_Re_failsAt ml_Re_60 im_Re_failsAt se_Re_failsAt rfl r0 (by decide) rfl (Nat.le_of_ble_eq_true rfl) rfl rfl ?_
      exact mj_zret rfl rfl d_Re_nextIs_40 ⟨by rw [er]; rfl, by rw [er]⟩
    · refine mj_iload_n d_Re_nextIs_27 rfl ?_
      refine mj_iload_n d_Re_nextIs_28 rfl ?_
      refine mj_icmp_le (tgt := 41) d_Re_nextIs_29 (by decide) (fun c_29 => ?_) (fun c_29 => ?_)
      · rw [e_v1] at c_24 c_29
        have er : rd_nx b lo hi x = (true, rd_go x 1) := by unfold rd_nx; rw [if_neg l2]; exact if_neg (fun q => q.elim c_24 (mj_nl c_29))
        refine mj_aload_n d_Re_nextIs_41 rfl ?_
        refine mj_dup d_Re_nextIs_42 rfl ?_
        refine mj_get ok_Re (k := 4) (by decide) fl_Re_24 d_Re_nextIs_43 r0 rfl ?_
        refine mj_iconst (v := 1) d_Re_nextIs_46 (by decide) ?_
        refine mj_iadd d_Re_nextIs_47 ?_
        refine mj_topi (fun v2 e_v2 => ?_)
        refine mj_put ok_Re (k := 4) (by decide) fl_Re_24 rfl (fun _ => rfl) (fun _ => rfl) (Nat.le_of_ble_eq_true rfl) d_Re_nextIs_48 r0 ?_
        obtain ⟨hh3, e_hh3⟩ : ∃ q_ : mj_H, q_ = h.set 14 (.inr (5, [.int x.1, .int x.2.1, .int (nI x.2.2.1), .ref 1, .int v2])) := ⟨_, rfl⟩
        refine mj_hp e_hh3 ?_
        have k4 : hh3[14]? = some (.inr (5, [.int x.1, .int x.2.1, .int (nI x.2.2.1), .ref 1, .int v2])) := by rw [e_hh3]; exact mj_sS r0
        have k5 := mj_sN (y := .inr (5, [.int x.1, .int x.2.1, .int (nI x.2.2.1), .ref 1, .int v2])) (show (14 : Nat) ≠ 1 by decide) f1
        rw [← e_hh3] at k5
        have k6 := mj_sN (y := .inr (5, [.int x.1, .int x.2.1, .int (nI x.2.2.1), .ref 1, .int v2])) (show (14 : Nat) ≠ 2 by decide) f2
        rw [← e_hh3] at k6
        refine mj_iconst (v := 1) d_Re_nextIs_51 (by decide) ?_
        refine mj_zret rfl rfl d_Re_nextIs_52 ⟨by rw [er]; rfl, ?_⟩
        rw [er, e_hh3, e_v2, nI_1]
        rfl
      · rw [e_v1] at c_24 c_29
        have er : rd_nx b lo hi x = (false, rd_fl x (nI x.2.2.2)) := by unfold rd_nx; rw [if_neg l2]; exact if_pos (Or.inr (mj_lt c_29))
        refine mj_aload_n d_Re_nextIs_32 rfl ?_
        refine mj_aload_n d_Re_nextIs_33 rfl ?_
        refine mj_get ok_Re (k := 4) (by decide) fl_Re_24 d_Re_nextIs_34 r0 rfl ?_
        refine mj_cV (S := []) (S1 := [.int 0]) (c_Re_failsAt R _) d_Re_nextIs_37 cw_Re_failsAt ml_Re_60 im_Re_failsAt se_Re_failsAt rfl r0 (by decide) rfl (Nat.le_of_ble_eq_true rfl) rfl rfl ?_
        exact mj_zret rfl rfl d_Re_nextIs_40 ⟨by rw [er]; rfl, by rw [er]⟩
set_option maxRecDepth 100000 in
set_option maxHeartbeats 4000000 in
theorem c_Re_nextIsKnown {h : mj_H} {b : by_B} {x : rd_X} (R : Rd h b x) (hx : x.2.2.2 ≤ b.1) (lo hi : Int32) : mj_Met M_Re_nextIsKnown (2, 44, none) 0 0 [.ref 14, .int lo, .int hi] h (mj_q (some (.int (if (rd_kn b lo hi x).1 = true then 1 else 0))) (h.set 14 (rd_o (rd_kn b lo hi x).2))) := by
  obtain ⟨⟨f1, f2, f3, f4⟩, r0⟩ := id R
  refine mj_enter (r := 2) rfl rfl (by decide) rfl ?_
  show mj_W M_Re_nextIsKnown _ _ _ _ 0 [some (.ref 14), some (.int lo), some (.int hi), none, none] [] h
  refine mj_aload_n d_Re_nextIsKnown_0 rfl ?_
  refine mj_get ok_Re (k := 4) (by decide) fl_Re_24 d_Re_nextIsKnown_1 r0 rfl ?_
  refine mj_aload_n d_Re_nextIsKnown_4 rfl ?_
  refine mj_get ok_Re (k := 3) (by decide) fl_Re_20 d_Re_nextIsKnown_5 r0 rfl ?_
  refine mj_get ok_By (k := 1) (by decide) fl_Re_57 d_Re_nextIsKnown_8 f1 rfl ?_
  refine mj_icmp_ge (tgt := 18) d_Re_nextIsKnown_11 (by decide) (fun c_11 => ?_) (fun c_11 => ?_)
  · have g1 : ¬ x.2.2.2 < b.1 := fun q => nI_ge q (by omega) c_11
    refine mj_iconst (v := 0) d_Re_nextIsKnown_18 (by decide) ?_
    refine mj_istore_n (L' := [some (.ref 14), some (.int lo), some (.int hi), some (.int 0), none]) d_Re_nextIsKnown_19 (by decide) rfl rfl ?_
    refine mj_aload_n d_Re_nextIsKnown_20 rfl ?_
    refine mj_iload_n d_Re_nextIsKnown_21 rfl ?_
    refine mj_iload_n d_Re_nextIsKnown_22 rfl ?_
    have R1 := R.up (x' := (rd_nx b lo hi x).2)
    have r1 := R1.2
    refine mj_cV (S := []) (S1 := [.int (if (rd_nx b lo hi x).1 = true then 1 else 0)]) (c_Re_nextIs R hx lo hi) d_Re_nextIsKnown_23 cw_Re_nextIs ml_Re_68 im_Re_nextIs se_Re_nextIs rfl r0 (by decide) rfl (Nat.le_of_ble_eq_true rfl) rfl rfl ?_
    rcases Bool.eq_false_or_eq_true ((rd_nx b lo hi x).1) with eb | eb
    · rw [show (if (rd_nx b lo hi x).1 = true then (1 : Int32) else 0) = 1 by rw [eb]; rfl]
      refine mj_istore (L' := [some (.ref 14), some (.int lo), some (.int hi), some (.int 0), some (.int 1)]) d_Re_nextIsKnown_26 (by decide) rfl rfl ?_
      refine mj_aload_n d_Re_nextIsKnown_28 rfl ?_
      refine mj_iload_n d_Re_nextIsKnown_29 rfl ?_
      refine mj_if_eq (tgt := 42) d_Re_nextIsKnown_30 (by decide) (fun _q => ?_) (fun _q => absurd rfl _q)
      refine mj_iconst (v := 0) d_Re_nextIsKnown_42 (by decide) ?_
      have er : rd_kn b lo hi x = ((rd_nx b lo hi x).1, rd_un (rd_nx b lo hi x).2 0) := by unfold rd_kn; rw [if_neg (fun q => g1 q.1)]
      refine mj_put ok_Re (k := 1) (by decide) fl_Re_27 rfl (fun _ => rfl) (fun _ => rfl) (Nat.le_of_ble_eq_true rfl) d_Re_nextIsKnown_43 r1 ?_
      obtain ⟨hh1, e_hh1⟩ : ∃ q_ : mj_H, q_ = (h.set 14 (rd_o (rd_nx b lo hi x).2)).set 14 (.inr (5, [.int (rd_nx b lo hi x).2.1, .int 0, .int (nI (rd_nx b lo hi x).2.2.2.1), .ref 1, .int (nI (rd_nx b lo hi x).2.2.2.2)])) := ⟨_, rfl⟩
      refine mj_hp e_hh1 ?_
      have k2 : hh1[14]? = some (.inr (5, [.int (rd_nx b lo hi x).2.1, .int 0, .int (nI (rd_nx b lo hi x).2.2.2.1), .ref 1, .int (nI (rd_nx b lo hi x).2.2.2.2)])) := by rw [e_hh1]; exact mj_sS r1
      refine mj_iload d_Re_nextIsKnown_46 rfl ?_
      refine mj_zret rfl rfl d_Re_nextIsKnown_48 ⟨by rw [er]; show _ = Sum.inl (some (Value.int (if (rd_nx b lo hi x).1 = true then 1 else 0))); rw [eb]; rfl, ?_⟩
      rw [er, e_hh1, List.set_set]
      rfl
    · rw [show (if (rd_nx b lo hi x).1 = true then (1 : Int32) else 0) = 0 by rw [eb]; rfl]
      refine mj_istore (L' := [some (.ref 14), some (.int lo), some (.int hi), some (.int 0), some (.int 0)]) d_Re_nextIsKnown_26 (by decide) rfl rfl ?_
      refine mj_aload_n d_Re_nextIsKnown_28 rfl ?_
      refine mj_iload_n d_Re_nextIsKnown_29 rfl ?_
      refine mj_if_eq (tgt := 42) d_Re_nextIsKnown_30 (by decide) (fun _q => ?_) (fun _q => absurd rfl _q)
      refine mj_iconst (v := 0) d_Re_nextIsKnown_42 (by decide) ?_
      have er : rd_kn b lo hi x = ((rd_nx b lo hi x).1, rd_un (rd_nx b lo hi x).2 0) := by unfold rd_kn; rw [if_neg (fun q => g1 q.1)]
      refine mj_put ok_Re (k := 1) (by decide) fl_Re_27 rfl (fun _ => rfl) (fun _ => rfl) (Nat.le_of_ble_eq_true rfl) d_Re_nextIsKnown_43 r1 ?_
      obtain ⟨hh3, e_hh3⟩ : ∃ q_ : mj_H, q_ = (h.set 14 (rd_o (rd_nx b lo hi x).2)).set 14 (.inr (5, [.int (rd_nx b lo hi x).2.1, .int 0, .int (nI (rd_nx b lo hi x).2.2.2.1), .ref 1, .int (nI (rd_nx b lo hi x).2.2.2.2)])) := ⟨_, rfl⟩
      refine mj_hp e_hh3 ?_
      have k4 : hh3[14]? = some (.inr (5, [.int (rd_nx b lo hi x).2.1, .int 0, .int (nI (rd_nx b lo hi x).2.2.2.1), .ref 1, .int (nI (rd_nx b lo hi x).2.2.2.2)])) := by rw [e_hh3]; exact mj_sS r1
      refine mj_iload d_Re_nextIsKnown_46 rfl ?_
      refine mj_zret rfl rfl d_Re_nextIsKnown_48 ⟨by rw [er]; show _ = Sum.inl (some (Value.int (if (rd_nx b lo hi x).1 = true then 1 else 0))); rw [eb]; rfl, ?_⟩
      rw [er, e_hh3, List.set_set]
      rfl
  · have g1 : x.2.2.2 < b.1 := by
      rcases Nat.lt_or_ge (x.2.2.2) (b.1) with q | q
      · exact q
      · exact absurd (nI_le q (by omega)) c_11
    refine mj_iconst (v := 1) d_Re_nextIsKnown_14 (by decide) ?_
    refine mj_goto (tgt := 19) d_Re_nextIsKnown_15 (by decide) ?_
    refine mj_istore_n (L' := [some (.ref 14), some (.int lo), some (.int hi), some (.int 1), none]) d_Re_nextIsKnown_19 (by decide) rfl rfl ?_
    refine mj_aload_n d_Re_nextIsKnown_20 rfl ?_
    refine mj_iload_n d_Re_nextIsKnown_21 rfl ?_
    refine mj_iload_n d_Re_nextIsKnown_22 rfl ?_
    have R1 := R.up (x' := (rd_nx b lo hi x).2)
    have r1 := R1.2
    refine mj_cV (S := []) (S1 := [.int (if (rd_nx b lo hi x).1 = true then 1 else 0)]) (c_Re_nextIs R hx lo hi) d_Re_nextIsKnown_23 cw_Re_nextIs ml_Re_68 im_Re_nextIs se_Re_nextIs rfl r0 (by decide) rfl (Nat.le_of_ble_eq_true rfl) rfl rfl ?_
    rcases Bool.eq_false_or_eq_true ((rd_nx b lo hi x).1) with eb | eb
    · rw [show (if (rd_nx b lo hi x).1 = true then (1 : Int32) else 0) = 1 by rw [eb]; rfl]
      refine mj_istore (L' := [some (.ref 14), some (.int lo), some (.int hi), some (.int 1), some (.int 1)]) d_Re_nextIsKnown_26 (by decide) rfl rfl ?_
      refine mj_aload_n d_Re_nextIsKnown_28 rfl ?_
      refine mj_iload_n d_Re_nextIsKnown_29 rfl ?_
      refine mj_if_eq (tgt := 42) d_Re_nextIsKnown_30 (by decide) (fun _q => absurd _q (by decide)) (fun _q => ?_)
      refine mj_iload d_Re_nextIsKnown_33 rfl ?_
      refine mj_if_ne (tgt := 42) d_Re_nextIsKnown_35 (by decide) (fun _q => ?_) (fun _q => absurd _q (by decide))
      refine mj_iconst (v := 0) d_Re_nextIsKnown_42 (by decide) ?_
      have er : rd_kn b lo hi x = ((rd_nx b lo hi x).1, rd_un (rd_nx b lo hi x).2 0) := by unfold rd_kn; rw [if_neg (fun q => by rw [eb] at q; exact absurd q.2 (by decide))]
      refine mj_put ok_Re (k := 1) (by decide) fl_Re_27 rfl (fun _ => rfl) (fun _ => rfl) (Nat.le_of_ble_eq_true rfl) d_Re_nextIsKnown_43 r1 ?_
      obtain ⟨hh5, e_hh5⟩ : ∃ q_ : mj_H, q_ = (h.set 14 (rd_o (rd_nx b lo hi x).2)).set 14 (.inr (5, [.int (rd_nx b lo hi x).2.1, .int 0, .int (nI (rd_nx b lo hi x).2.2.2.1), .ref 1, .int (nI (rd_nx b lo hi x).2.2.2.2)])) := ⟨_, rfl⟩
      refine mj_hp e_hh5 ?_
      have k6 : hh5[14]? = some (.inr (5, [.int (rd_nx b lo hi x).2.1, .int 0, .int (nI (rd_nx b lo hi x).2.2.2.1), .ref 1, .int (nI (rd_nx b lo hi x).2.2.2.2)])) := by rw [e_hh5]; exact mj_sS r1
      refine mj_iload d_Re_nextIsKnown_46 rfl ?_
      refine mj_zret rfl rfl d_Re_nextIsKnown_48 ⟨by rw [er]; show _ = Sum.inl (some (Value.int (if (rd_nx b lo hi x).1 = true then 1 else 0))); rw [eb]; rfl, ?_⟩
      rw [er, e_hh5, List.set_set]
      rfl
    · rw [show (if (rd_nx b lo hi x).1 = true then (1 : Int32) else 0) = 0 by rw [eb]; rfl]
      refine mj_istore (L' := [some (.ref 14), some (.int lo), some (.int hi), some (.int 1), some (.int 0)]) d_Re_nextIsKnown_26 (by decide) rfl rfl ?_
      refine mj_aload_n d_Re_nextIsKnown_28 rfl ?_
      refine mj_iload_n d_Re_nextIsKnown_29 rfl ?_
      refine mj_if_eq (tgt := 42) d_Re_nextIsKnown_30 (by decide) (fun _q => absurd _q (by decide)) (fun _q => ?_)
      refine mj_iload d_Re_nextIsKnown_33 rfl ?_
      refine mj_if_ne (tgt := 42) d_Re_nextIsKnown_35 (by decide) (fun _q => absurd rfl _q) (fun _q => ?_)
      refine mj_iconst (v := 1) d_Re_nextIsKnown_38 (by decide) ?_
      refine mj_goto (tgt := 43) d_Re_nextIsKnown_39 (by decide) ?_
      have er : rd_kn b lo hi x = ((rd_nx b lo hi x).1, rd_un (rd_nx b lo hi x).2 1) := by unfold rd_kn; rw [if_pos ⟨g1, eb⟩]
      refine mj_put ok_Re (k := 1) (by decide) fl_Re_27 rfl (fun _ => rfl) (fun _ => rfl) (Nat.le_of_ble_eq_true rfl) d_Re_nextIsKnown_43 r1 ?_
      obtain ⟨hh7, e_hh7⟩ : ∃ q_ : mj_H, q_ = (h.set 14 (rd_o (rd_nx b lo hi x).2)).set 14 (.inr (5, [.int (rd_nx b lo hi x).2.1, .int 1, .int (nI (rd_nx b lo hi x).2.2.2.1), .ref 1, .int (nI (rd_nx b lo hi x).2.2.2.2)])) := ⟨_, rfl⟩
      refine mj_hp e_hh7 ?_
      have k8 : hh7[14]? = some (.inr (5, [.int (rd_nx b lo hi x).2.1, .int 1, .int (nI (rd_nx b lo hi x).2.2.2.1), .ref 1, .int (nI (rd_nx b lo hi x).2.2.2.2)])) := by rw [e_hh7]; exact mj_sS r1
      refine mj_iload d_Re_nextIsKnown_46 rfl ?_
      refine mj_zret rfl rfl d_Re_nextIsKnown_48 ⟨by rw [er]; show _ = Sum.inl (some (Value.int (if (rd_nx b lo hi x).1 = true then 1 else 0))); rw [eb]; rfl, ?_⟩
      rw [er, e_hh7, List.set_set]
      rfl
set_option maxRecDepth 100000 in
set_option maxHeartbeats 4000000 in
theorem c_Re_behindChunk {h : mj_H} {b : by_B} {x : rd_X} (R : Rd h b x) (D : Int32) : mj_Met M_Re_behindChunk (2, 42, none) 0 0 [.ref 14, .int D] h (mj_q (some (.int (rd_bh b D))) h) := by
  obtain ⟨⟨f1, f2, f3, f4⟩, r0⟩ := id R
  refine mj_enter (r := 1) rfl rfl (by decide) rfl ?_
  show mj_W M_Re_behindChunk _ _ _ _ 0 [some (.ref 14), some (.int D), none] [] h
  refine mj_iload_n d_Re_behindChunk_0 rfl ?_
  refine mj_iconst (v := 3) d_Re_behindChunk_1 (by decide) ?_
  refine mj_iadd d_Re_behindChunk_2 ?_
  refine mj_aload_n d_Re_behindChunk_3 rfl ?_
  refine mj_get ok_Re (k := 3) (by decide) fl_Re_20 d_Re_behindChunk_4 r0 rfl ?_
  refine mj_iload_n d_Re_behindChunk_7 rfl ?_
  refine mj_iconst (v := 1) d_Re_behindChunk_8 (by decide) ?_
  refine mj_iadd d_Re_behindChunk_9 ?_
  refine mj_cV (S := [.int (D + 3)]) (S1 := [.int (by_two b (D + 1)), .int (D + 3)]) (c_By_twoAt R.1 (D + 1)) d_Re_behindChunk_10 cw_By_twoAt ml_Re_93 im_By_twoAt se_By_twoAt rfl f1 (by decide) rfl (Nat.le_of_ble_eq_true rfl) rfl rfl ?_
  refine mj_iadd d_Re_behindChunk_13 ?_
  refine mj_topi (fun v1 e_v1 => ?_)
  refine mj_istore_n (L' := [some (.ref 14), some (.int D), some (.int v1)]) d_Re_behindChunk_14 (by decide) rfl rfl ?_
  refine mj_iload_n d_Re_behindChunk_15 rfl ?_
  refine mj_aload_n d_Re_behindChunk_16 rfl ?_
  refine mj_get ok_Re (k := 3) (by decide) fl_Re_20 d_Re_behindChunk_17 r0 rfl ?_
  refine mj_get ok_By (k := 1) (by decide) fl_Re_57 d_Re_behindChunk_20 f1 rfl ?_
  refine mj_icmp_le (tgt := 30) d_Re_behindChunk_23 (by decide) (fun c_23 => ?_) (fun c_23 => ?_)
  · refine mj_iload_n d_Re_behindChunk_30 rfl ?_
    rw [e_v1] at c_23
    exact mj_iret rfl d_Re_behindChunk_31 ⟨by unfold rd_bh; rw [if_neg (mj_nl c_23), e_v1], rfl⟩
  · refine mj_iconst (v := (-1)) d_Re_behindChunk_26 (by decide) ?_
    refine mj_goto (tgt := 31) d_Re_behindChunk_27 (by decide) ?_
    rw [e_v1] at c_23
    exact mj_iret rfl d_Re_behindChunk_31 ⟨by unfold rd_bh; rw [if_pos (mj_lt c_23)], rfl⟩
