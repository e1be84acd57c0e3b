theorem Cf.sw {h : mj_H} {f : Nat → Int32} {r s k : by_B} {a l t st m a' l' t' st' m' : Nat} {p p' : pi_P} (C : Cf h f r s k a l t st m p) (P : Pi h a' l' t' st' m' p') (z : 17 ≤ a' ∧ 17 ≤ l' ∧ 17 ≤ t' ∧ 17 ≤ st' ∧ 17 ≤ m') (ok : pi_ok p') : Cf h f r s k a' l' t' st' m' p' := ⟨⟨⟨C.1.1.1, C.1.1.2.1, P, z, ok⟩, C.1.2⟩, C.2⟩
theorem rr_fr {h : mj_H} {x : rd_X} {f : Nat → Int32} {r s q : by_B} {a l t st m i : Nat} {p : pi_P} (z : 17 ≤ a ∧ 17 ≤ l ∧ 17 ≤ t ∧ 17 ≤ st ∧ 17 ≤ m) (hi : i < 4 ∨ i = 13) : (rr_up h a l t st m x f r s q p)[i]? = h[i]? := by
  unfold rr_up ps_up
  rw [List.getElem?_set_ne (by omega), pi_fr17 z (by omega), cf_fr (by omega)]
theorem rr_rd {h : mj_H} {x : rd_X} {f : Nat → Int32} {r s q : by_B} {a l t st m : Nat} {p : pi_P} {y : mj_C} (z : 17 ≤ a ∧ 17 ≤ l ∧ 17 ≤ t ∧ 17 ≤ st ∧ 17 ≤ m) (hr : h[14]? = some y) : (rr_up h a l t st m x f r s q p)[14]? = some (rd_o x) := by
  unfold rr_up ps_up
  exact mj_sS (x := y) (by rw [pi_fr17 z (by decide), cf_fr (by decide)]; exact hr)
set_option maxRecDepth 100000 in
set_option maxHeartbeats 4000000 in
theorem c_RF_decode {h : mj_H} {b : by_B} {f : Nat → Int32} {r s q : by_B} {pa pb : Nat} {p p2 : pi_P} {v : Int32} (O : Ob h b f r s q pa pb p p2 v) {v0 v1 v4 : Int32} {k0 u : Nat} (hr : h[14]? = some (.inr (5, [.int v0, .int v1, .int (nI k0), .ref u, .int v4]))) : mj_Met M_RF_decode (7, 181, none) 1 6 [.ref 0] h (if (rd_all b ((-2 : Int32), (0 : Int32), k0, 0) f r s p2).1 = true then mj_q (some (.int (nI (rd_all b ((-2 : Int32), (0 : Int32), k0, 0) f r s p2).2.1.2.2.1))) ((rr_up h pb (pb + 1) (pb + 2) (pb + 3) (pb + 4) (rd_all b ((-2 : Int32), (0 : Int32), k0, 0) f r s p2).2.1 (rd_all b ((-2 : Int32), (0 : Int32), k0, 0) f r s p2).2.2.1 (rd_all b ((-2 : Int32), (0 : Int32), k0, 0) f r s p2).2.2.2.1 (rd_all b ((-2 : Int32), (0 : Int32), k0, 0) f r s p2).2.2.2.2.1 q (rd_all b ((-2 : Int32), (0 : Int32), k0, 0) f r s p2).2.2.2.2.2).set 0 (.inr (0, [.ref 1, .ref 3, .ref 13, .ref 14, .ref pb, .ref pa, .int (rd_all b ((-2 : Int32), (0 : Int32), k0, 0) f r s p2).2.1.1]))) else if (rd_all b ((-2 : Int32), (0 : Int32), k0, 0) f r s p2).2.1.2.1 = 0 then mj_t 9 ((rr_up h pb (pb + 1) (pb + 2) (pb + 3) (pb + 4) (rd_all b ((-2 : Int32), (0 : Int32), k0, 0) f r s p2).2.1 (rd_all b ((-2 : Int32), (0 : Int32), k0, 0) f r s p2).2.2.1 (rd_all b ((-2 : Int32), (0 : Int32), k0, 0) f r s p2).2.2.2.1 (rd_all b ((-2 : Int32), (0 : Int32), k0, 0) f r s p2).2.2.2.2.1 q (rd_all b ((-2 : Int32), (0 : Int32), k0, 0) f r s p2).2.2.2.2.2).set 0 (.inr (0, [.ref 1, .ref 3, .ref 13, .ref 14, .ref pa, .ref pb, .int (rd_all b ((-2 : Int32), (0 : Int32), k0, 0) f r s p2).2.1.1]))) else mj_t 12 ((rr_up h pb (pb + 1) (pb + 2) (pb + 3) (pb + 4) (rd_all b ((-2 : Int32), (0 : Int32), k0, 0) f r s p2).2.1 (rd_all b ((-2 : Int32), (0 : Int32), k0, 0) f r s p2).2.2.1 (rd_all b ((-2 : Int32), (0 : Int32), k0, 0) f r s p2).2.2.2.1 (rd_all b ((-2 : Int32), (0 : Int32), k0, 0) f r s p2).2.2.2.2.1 q (rd_all b ((-2 : Int32), (0 : Int32), k0, 0) f r s p2).2.2.2.2.2).set 0 (.inr (0, [.ref 1, .ref 3, .ref 13, .ref 14, .ref pa, .ref pb, .int (rd_all b ((-2 : Int32), (0 : Int32), k0, 0) f r s p2).2.1.1])))) := by
  obtain ⟨o0, B, C, P2, ow, -, ok2, okb, opq⟩ := id O
  obtain ⟨b1, b2, b3, b4⟩ := id B
  obtain ⟨h1, h2, h3, h4, h5, -, w1, w2, w3⟩ := id C.1.1.2.2.1
  have zb : 17 ≤ pb ∧ 17 ≤ pb + 1 ∧ 17 ≤ pb + 2 ∧ 17 ≤ pb + 3 ∧ 17 ≤ pb + 4 := by omega
  have C2 := C.sw P2 zb ok2
  refine mj_enter (r := 2) rfl rfl (by decide) rfl ?_
  show mj_W M_RF_decode _ _ _ _ 0 [some (.ref 0), none, none] [] h
  refine mj_aload_n d_RF_decode_0 rfl ?_
  refine mj_get ok_RF (k := 3) (by decide) fl_RF_35 d_RF_decode_1 o0 rfl ?_
  refine mj_aload_n d_RF_decode_4 rfl ?_
  refine mj_get ok_RF (k := 0) (by decide) fl_RF_14 d_RF_decode_5 o0 rfl ?_
  refine mj_aload_n d_RF_decode_8 rfl ?_
  refine mj_get ok_RF (k := 5) (by decide) fl_RF_46 d_RF_decode_9 o0 rfl ?_
  refine mj_aload_n d_RF_decode_12 rfl ?_
  refine mj_get ok_RF (k := 1) (by decide) fl_RF_21 d_RF_decode_13 o0 rfl ?_
  refine mj_cV (S := []) (S1 := [.int (if (rd_all b ((-2 : Int32), (0 : Int32), k0, 0) f r s p2).1 = true then 1 else 0)]) (c_Re_read B C2 okb hr) d_RF_decode_16 cw_Re_read ml_RF_114 im_Re_read se_Re_read rfl hr (by decide) rfl (Nat.le_of_ble_eq_true rfl) rfl rfl ?_
  have x0 : (rr_up h pb (pb + 1) (pb + 2) (pb + 3) (pb + 4) (rd_all b ((-2 : Int32), (0 : Int32), k0, 0) f r s p2).2.1 (rd_all b ((-2 : Int32), (0 : Int32), k0, 0) f r s p2).2.2.1 (rd_all b ((-2 : Int32), (0 : Int32), k0, 0) f r s p2).2.2.2.1 (rd_all b ((-2 : Int32), (0 : Int32), k0, 0) f r s p2).2.2.2.2.1 q (rd_all b ((-2 : Int32), (0 : Int32), k0, 0) f r s p2).2.2.2.2.2)[0]? = some _ := (rr_fr zb (by decide)).trans o0
  have x14 := rr_rd (x := (rd_all b ((-2 : Int32), (0 : Int32), k0, 0) f r s p2).2.1) (f := (rd_all b ((-2 : Int32), (0 : Int32), k0, 0) f r s p2).2.2.1) (r := (rd_all b ((-2 : Int32), (0 : Int32), k0, 0) f r s p2).2.2.2.1) (s := (rd_all b ((-2 : Int32), (0 : Int32), k0, 0) f r s p2).2.2.2.2.1) (q := q) (p := (rd_all b ((-2 : Int32), (0 : Int32), k0, 0) f r s p2).2.2.2.2.2) zb hr
  obtain ⟨H1, e_H1⟩ : ∃ q_, q_ = (rr_up h pb (pb + 1) (pb + 2) (pb + 3) (pb + 4) (rd_all b ((-2 : Int32), (0 : Int32), k0, 0) f r s p2).2.1 (rd_all b ((-2 : Int32), (0 : Int32), k0, 0) f r s p2).2.2.1 (rd_all b ((-2 : Int32), (0 : Int32), k0, 0) f r s p2).2.2.2.1 (rd_all b ((-2 : Int32), (0 : Int32), k0, 0) f r s p2).2.2.2.2.1 q (rd_all b ((-2 : Int32), (0 : Int32), k0, 0) f r s p2).2.2.2.2.2) := ⟨_, rfl⟩
  rw [← e_H1] at x0 x14 ⊢
  rcases Bool.eq_false_or_eq_true ((rd_all b ((-2 : Int32), (0 : Int32), k0, 0) f r s p2).1) with eb | eb
  · rw [show (if (rd_all b ((-2 : Int32), (0 : Int32), k0, 0) f r s p2).1 = true then (1 : Int32) else 0) = 1 by rw [eb]; rfl]
    refine mj_istore_n (L' := [some (.ref 0), some (.int 1), none]) d_RF_decode_19 (by decide) rfl rfl ?_
    refine mj_aload_n d_RF_decode_20 rfl ?_
    refine mj_aload_n d_RF_decode_21 rfl ?_
    refine mj_get ok_RF (k := 3) (by decide) fl_RF_35 d_RF_decode_22 x0 rfl ?_
    refine mj_get ok_Re (k := 0) (by decide) fl_RF_118 d_RF_decode_25 x14 rfl ?_
    refine mj_topi (fun v1 e_v1 => ?_)
    refine mj_put ok_RF (k := 6) (by decide) fl_RF_49 rfl (fun _ => rfl) (fun _ => rfl) (Nat.le_of_ble_eq_true rfl) d_RF_decode_28 x0 ?_
    obtain ⟨hh2, e_hh2⟩ : ∃ q_ : mj_H, q_ = H1.set 0 (.inr (0, [.ref 1, .ref 3, .ref 13, .ref 14, .ref pa, .ref pb, .int v1])) := ⟨_, rfl⟩
    refine mj_hp e_hh2 ?_
    have k3 : hh2[0]? = some (.inr (0, [.ref 1, .ref 3, .ref 13, .ref 14, .ref pa, .ref pb, .int v1])) := by rw [e_hh2]; exact mj_sS x0
    have k4 := mj_sN (y := .inr (0, [.ref 1, .ref 3, .ref 13, .ref 14, .ref pa, .ref pb, .int v1])) (show (0 : Nat) ≠ 14 by decide) x14
    rw [← e_hh2] at k4
    have eh : hh2 = H1.set 0 (.inr (0, [.ref 1, .ref 3, .ref 13, .ref 14, .ref pa, .ref pb, .int (rd_all b ((-2 : Int32), (0 : Int32), k0, 0) f r s p2).2.1.1])) := by rw [e_hh2, e_v1]
    refine mj_iload_n d_RF_decode_31 rfl ?_
    refine mj_if_ne (tgt := 53) d_RF_decode_32 (by decide) (fun _q => ?_) (fun _q => absurd _q (by decide))
    refine mj_iload_n d_RF_decode_53 rfl ?_
    refine mj_if_ne (tgt := 65) d_RF_decode_54 (by decide) (fun _q => ?_) (fun _q => absurd _q (by decide))
    refine mj_aload_n d_RF_decode_65 rfl ?_
    refine mj_get ok_RF (k := 4) (by decide) fl_RF_42 d_RF_decode_66 k3 rfl ?_
    refine mj_astore_n (L' := [some (.ref 0), some (.int 1), some (.ref pa)]) d_RF_decode_69 (by decide) rfl rfl ?_
    refine mj_aload_n d_RF_decode_70 rfl ?_
    refine mj_aload_n d_RF_decode_71 rfl ?_
    refine mj_get ok_RF (k := 5) (by decide) fl_RF_46 d_RF_decode_72 k3 rfl ?_
    refine mj_put ok_RF (k := 4) (by decide) fl_RF_42 rfl (fun _ => rfl) (fun _ => rfl) (Nat.le_of_ble_eq_true rfl) d_RF_decode_75 k3 ?_
    obtain ⟨hh5, e_hh5⟩ : ∃ q_ : mj_H, q_ = hh2.set 0 (.inr (0, [.ref 1, .ref 3, .ref 13, .ref 14, .ref pb, .ref pb, .int v1])) := ⟨_, rfl⟩
    refine mj_hp e_hh5 ?_
    have k6 : hh5[0]? = some (.inr (0, [.ref 1, .ref 3, .ref 13, .ref 14, .ref pb, .ref pb, .int v1])) := by rw [e_hh5]; exact mj_sS k3
    have k7 := mj_sN (y := .inr (0, [.ref 1, .ref 3, .ref 13, .ref 14, .ref pb, .ref pb, .int v1])) (show (0 : Nat) ≠ 14 by decide) k4
    rw [← e_hh5] at k7
    refine mj_aload_n d_RF_decode_78 rfl ?_
    refine mj_aload_n d_RF_decode_79 rfl ?_
    refine mj_put ok_RF (k := 5) (by decide) fl_RF_46 rfl (fun _ => rfl) (fun _ => rfl) (Nat.le_of_ble_eq_true rfl) d_RF_decode_80 k6 ?_
    obtain ⟨hh8, e_hh8⟩ : ∃ q_ : mj_H, q_ = hh5.set 0 (.inr (0, [.ref 1, .ref 3, .ref 13, .ref 14, .ref pb, .ref pa, .int v1])) := ⟨_, rfl⟩
    refine mj_hp e_hh8 ?_
    have k9 : hh8[0]? = some (.inr (0, [.ref 1, .ref 3, .ref 13, .ref 14, .ref pb, .ref pa, .int v1])) := by rw [e_hh8]; exact mj_sS k6
    have k10 := mj_sN (y := .inr (0, [.ref 1, .ref 3, .ref 13, .ref 14, .ref pb, .ref pa, .int v1])) (show (0 : Nat) ≠ 14 by decide) k7
    rw [← e_hh8] at k10
    refine mj_aload_n d_RF_decode_83 rfl ?_
    refine mj_get ok_RF (k := 3) (by decide) fl_RF_35 d_RF_decode_84 k9 rfl ?_
    refine mj_get ok_Re (k := 2) (by decide) fl_RF_128 d_RF_decode_87 k10 rfl ?_
    rw [if_pos eb]
    exact mj_iret rfl d_RF_decode_90 ⟨rfl, by rw [e_hh8, e_hh5, eh, List.set_set, List.set_set, e_v1]⟩
  · rw [show (if (rd_all b ((-2 : Int32), (0 : Int32), k0, 0) f r s p2).1 = true then (1 : Int32) else 0) = 0 by rw [eb]; rfl]
    refine mj_istore_n (L' := [some (.ref 0), some (.int 0), none]) d_RF_decode_19 (by decide) rfl rfl ?_
    refine mj_aload_n d_RF_decode_20 rfl ?_
    refine mj_aload_n d_RF_decode_21 rfl ?_
    refine mj_get ok_RF (k := 3) (by decide) fl_RF_35 d_RF_decode_22 x0 rfl ?_
    refine mj_get ok_Re (k := 0) (by decide) fl_RF_118 d_RF_decode_25 x14 rfl ?_
    refine mj_topi (fun v11 e_v11 => ?_)
    refine mj_put ok_RF (k := 6) (by decide) fl_RF_49 rfl (fun _ => rfl) (fun _ => rfl) (Nat.le_of_ble_eq_true rfl) d_RF_decode_28 x0 ?_
    obtain ⟨hh12, e_hh12⟩ : ∃ q_ : mj_H, q_ = H1.set 0 (.inr (0, [.ref 1, .ref 3, .ref 13, .ref 14, .ref pa, .ref pb, .int v11])) := ⟨_, rfl⟩
    refine mj_hp e_hh12 ?_
    have k13 : hh12[0]? = some (.inr (0, [.ref 1, .ref 3, .ref 13, .ref 14, .ref pa, .ref pb, .int v11])) := by rw [e_hh12]; exact mj_sS x0
    have k14 := mj_sN (y := .inr (0, [.ref 1, .ref 3, .ref 13, .ref 14, .ref pa, .ref pb, .int v11])) (show (0 : Nat) ≠ 14 by decide) x14
    rw [← e_hh12] at k14
    have eh : hh12 = H1.set 0 (.inr (0, [.ref 1, .ref 3, .ref 13, .ref 14, .ref pa, .ref pb, .int (rd_all b ((-2 : Int32), (0 : Int32), k0, 0) f r s p2).2.1.1])) := by rw [e_hh12, e_v11]
    refine mj_iload_n d_RF_decode_31 rfl ?_
    refine mj_if_ne (tgt := 53) d_RF_decode_32 (by decide) (fun _q => absurd rfl _q) (fun _q => ?_)
    refine mj_aload_n d_RF_decode_35 rfl ?_
    refine mj_get ok_RF (k := 3) (by decide) fl_RF_35 d_RF_decode_36 k13 rfl ?_
    refine mj_get ok_Re (k := 1) (by decide) fl_RF_121 d_RF_decode_39 k14 rfl ?_
    refine mj_if_ne (tgt := 53) d_RF_decode_42 (by decide) (fun c_42 => ?_) (fun c_42 => ?_)
    · refine mj_iload_n d_RF_decode_53 rfl ?_
      refine mj_if_ne (tgt := 65) d_RF_decode_54 (by decide) (fun _q => absurd rfl _q) (fun _q => ?_)
      refine mj_throw0 (kc := 0) (ks := 0) (names := ["java/lang/RuntimeException", "java/lang/Exception"]) (ci := 12) rfl rfl (by decide +kernel) en_fit cl_RF_125 in_UO at_UO gw_UO d_RF_decode_57 d_RF_decode_60 d_RF_decode_61 d_RF_decode_64 (by decide) ?_
      rw [if_neg (show ¬ (rd_all b ((-2 : Int32), (0 : Int32), k0, 0) f r s p2).1 = true by rw [eb]; decide), if_neg c_42, ← eh]
      exact ⟨rfl, rfl⟩
    · refine mj_throw0 (kc := 0) (ks := 0) (names := ["java/lang/RuntimeException", "java/lang/Exception"]) (ci := 9) rfl rfl (by decide +kernel) en_fit cl_RF_61 in_IA at_IA gw_IA d_RF_decode_45 d_RF_decode_48 d_RF_decode_49 d_RF_decode_52 (by decide) ?_
      rw [if_neg (show ¬ (rd_all b ((-2 : Int32), (0 : Int32), k0, 0) f r s p2).1 = true by rw [eb]; decide), if_pos c_42, ← eh]
      exact ⟨rfl, rfl⟩
