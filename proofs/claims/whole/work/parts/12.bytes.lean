theorem By.oth {h : mj_H} {a c n a2 c2 n2 : Nat} {b b2 b' : by_B} (B : By h a c n b) (B2 : By h a2 c2 n2 b2) (ha : a ≠ a2) (hc : c ≠ c2) : By (by_up h a c n b') a2 c2 n2 b2 := by
  obtain ⟨h1, h2, h3, h4⟩ := B2
  exact ⟨mj_sN (Ne.symm (mj_ne h1 B.2.1)) (mj_sN ha h1), mj_sN hc (mj_sN (mj_ne B.1 h2) h2), h3, h4⟩
theorem by_addN_le {n : Nat} (x : Int32) : ∀ (j k : Nat) (b : by_B), b.1 ≤ n → (by_addN n x j k b).1 ≤ n
  | 0, _, _, h => h
  | j + 1, k, b, h => by_addN_le x j (k + 1) _ (by_add_le _ h)
theorem by_addP_le {n : Nat} (b2 : by_B) : ∀ (j k : Nat) (b : by_B), b.1 ≤ n → (by_addP n b2 j k b).1 ≤ n
  | 0, _, _, h => h
  | j + 1, k, b, h => by_addP_le b2 j (k + 1) _ (by_add_le _ h)
theorem by_next_le : ∀ (j k : Nat) (b : by_B) (z : Int32), (by_next j k b z).2.1 = b.1 ∧ (by_next j k b z).2.2.2 = b.2.2
  | 0, _, _, _ => ⟨rfl, rfl⟩
  | j + 1, k, b, z => by
    unfold by_next
    split
    · exact by_next_le j (k + 1) (b.1, b.2.1 + 1, b.2.2) _
    · exact by_next_le j (k + 1) b z
theorem mj_le {M : mj_M} {Q : mj_E → mj_H → Prop} {d : mj_D} {kc ks pc : Nat} {L : List (Option Value)} {S : List Value} {h : mj_H} (k : mj_W M Q d kc ks pc L S h) : mj_W M Q d kc ks pc L S h := k
set_option maxRecDepth 100000 in
set_option maxHeartbeats 4000000 in
theorem lp_By_addPart {Q : mj_E → mj_H → Prop} {a c n a2 c2 n2 k0 kc ks : Nat} {b2 : by_B} (m : Nat) (hm : m < 2 ^ 31) (ha : a ≠ a2) (hc : c ≠ c2) : ∀ (j k : Nat) (b : by_B) (h : mj_H), By h a c n b → By h a2 c2 n2 b2 → k + j = m → mj_W M_By_addPart Q (1, 21, none) kc ks 25 [some (.ref a), some (.ref a2), some (.int (nI k0)), some (.int (nI m)), some (.int (nI m))] [] (by_up h a c n (by_addP n b2 j k b)) → mj_W M_By_addPart Q (1, 21, none) kc ks 3 [some (.ref a), some (.ref a2), some (.int (nI k0)), some (.int (nI m)), some (.int (nI k))] [] h := by
  intro j
  induction j with
  | zero =>
    intro k b h B B2 hk kk
    obtain ⟨h1, h2, h3, h4⟩ := id B
    obtain ⟨g1, g2, g3, g4⟩ := id B2
    refine mj_iload d_By_addPart_3 rfl ?_
    refine mj_iload_n d_By_addPart_5 rfl ?_
    refine mj_icmp_ge (tgt := 25) d_By_addPart_6 (by decide) (fun c_6 => ?_) (fun c_6 => ?_)
    · have e9 : k = m := by omega
      subst e9
      rw [show by_addP n b2 0 k b = b from rfl, B.id] at kk
      exact kk
    · exact absurd (nI_le (by omega) (by omega)) c_6
  | succ j ih =>
    intro k b h B B2 hk kk
    obtain ⟨h1, h2, h3, h4⟩ := id B
    obtain ⟨g1, g2, g3, g4⟩ := id B2
    refine mj_iload d_By_addPart_3 rfl ?_
    refine mj_iload_n d_By_addPart_5 rfl ?_
    refine mj_icmp_ge (tgt := 25) d_By_addPart_6 (by decide) (fun c_6 => ?_) (fun c_6 => ?_)
    · exact absurd c_6 (nI_ge (by omega) hm)
    · refine mj_aload_n d_By_addPart_9 rfl ?_
      refine mj_aload_n d_By_addPart_10 rfl ?_
      refine mj_iload d_By_addPart_11 rfl ?_
      refine mj_cV (S := [.ref a]) (S1 := [.int (by_get b2 (nI k)), .ref a]) (c_By_at B2 (nI k)) d_By_addPart_13 cw_By_at ml_By_24 im_By_at se_By_at rfl g1 (by decide) rfl (Nat.le_of_ble_eq_true rfl) rfl rfl ?_
      refine mj_cV (S := []) (S1 := []) (c_By_add B _) d_By_addPart_16 cw_By_add ml_By_20 im_By_add se_By_add rfl h1 (by decide) rfl (Nat.le_of_ble_eq_true rfl) rfl rfl ?_
      obtain ⟨v1, e_v1⟩ : ∃ q_ : Int32, q_ = (nI k) + 1 := ⟨_, rfl⟩
      refine mj_iinc (x := (nI k)) (v := v1) (L' := [some (.ref a), some (.ref a2), some (.int (nI k0)), some (.int (nI m)), some (.int v1)]) d_By_addPart_19 rfl (by rw [e_v1]; rfl) (by decide) rfl rfl ?_
      refine mj_goto (tgt := 3) d_By_addPart_22 (by decide) ?_
      refine mj_le ?_
      rw [e_v1, nI_1]
      refine ih (k + 1) _ _ (B.up (by_add_le _ h3)) (B.oth B2 ha hc) (by omega) ?_
      rw [B.upup]
      exact kk
set_option maxRecDepth 100000 in
set_option maxHeartbeats 4000000 in
theorem c_By_addPart {h : mj_H} {a c n a2 c2 n2 : Nat} {b b2 : by_B} (B : By h a c n b) (B2 : By h a2 c2 n2 b2) (ha : a ≠ a2) (hc : c ≠ c2) (k m : Nat) (hk : k < 2 ^ 31) (hm : m < 2 ^ 31) : mj_Met M_By_addPart (1, 21, none) 0 0 [.ref a, .ref a2, .int (nI k), .int (nI m)] h (mj_q none (by_up h a c n (by_addP n b2 (m - k) k b))) := by
  refine mj_enter (r := 1) rfl rfl (by decide) rfl ?_
  show mj_W M_By_addPart _ _ _ _ 0 [some (.ref a), some (.ref a2), some (.int (nI k)), some (.int (nI m)), none] [] h
  refine mj_iload_n d_By_addPart_0 rfl ?_
  refine mj_istore (L' := [some (.ref a), some (.ref a2), some (.int (nI k)), some (.int (nI m)), some (.int (nI k))]) d_By_addPart_1 (by decide) rfl rfl ?_
  rcases Nat.lt_or_ge m k with q | q
  · refine mj_iload d_By_addPart_3 rfl ?_
    refine mj_iload_n d_By_addPart_5 rfl ?_
    refine mj_icmp_ge (tgt := 25) d_By_addPart_6 (by decide) (fun c_6 => ?_) (fun c_6 => absurd (nI_le (show m ≤ k by omega) hk) c_6)
    exact mj_vret rfl d_By_addPart_25 ⟨rfl, by rw [show m - k = 0 by omega]; exact B.id.symm⟩
  · refine lp_By_addPart m hm ha hc (m - k) k b h B B2 (by omega) ?_
    exact mj_vret rfl d_By_addPart_25 ⟨rfl, rfl⟩
set_option maxRecDepth 100000 in
set_option maxHeartbeats 4000000 in
theorem lp_By_nextNumber {Q : mj_E → mj_H → Prop} {a c n kc ks : Nat} (m : Nat) (hm : m < 2 ^ 31) : ∀ (j k : Nat) (b : by_B) (z : Int32) (h : mj_H), By h a c n b → b.2.1 ≤ b.1 → k + j = m → mj_W M_By_nextNumber Q (0, 0, none) kc ks 53 [some (.ref a), some (.int (nI m)), some (.int (by_next j k b z).1), some (.int (nI m))] [] (by_up h a c n (by_next j k b z).2) → mj_W M_By_nextNumber Q (0, 0, none) kc ks 4 [some (.ref a), some (.int (nI m)), some (.int z), some (.int (nI k))] [] h := by
  intro j
  induction j with
  | zero =>
    intro k b z h B hcu hk kk
    obtain ⟨h1, h2, h3, h4⟩ := id B
    refine mj_iload_n d_By_nextNumber_4 rfl ?_
    refine mj_iload_n d_By_nextNumber_5 rfl ?_
    refine mj_icmp_ge (tgt := 53) d_By_nextNumber_6 (by decide) (fun c_6 => ?_) (fun c_6 => ?_)
    · have e9 : k = m := by omega
      subst e9
      rw [show by_next 0 k b z = (z, b) from rfl, B.id] at kk
      exact kk
    · exact absurd (nI_le (by omega) (by omega)) c_6
  | succ j ih =>
    intro k b z h B hcu hk kk
    obtain ⟨h1, h2, h3, h4⟩ := id B
    refine mj_iload_n d_By_nextNumber_4 rfl ?_
    refine mj_iload_n d_By_nextNumber_5 rfl ?_
    refine mj_icmp_ge (tgt := 53) d_By_nextNumber_6 (by decide) (fun c_6 => ?_) (fun c_6 => ?_)
    · exact absurd c_6 (nI_ge (by omega) hm)
    · refine mj_aload_n d_By_nextNumber_9 rfl ?_
      refine mj_get ok_By (k := 2) (by decide) fl_By_17 d_By_nextNumber_10 h1 rfl ?_
      refine mj_aload_n d_By_nextNumber_13 rfl ?_
      refine mj_get ok_By (k := 1) (by decide) fl_By_13 d_By_nextNumber_14 h1 rfl ?_
      refine mj_icmp_ge (tgt := 47) d_By_nextNumber_17 (by decide) (fun c_17 => ?_) (fun c_17 => ?_)
      · have hge : ¬ b.2.1 < b.1 := fun q => nI_ge q (by omega) c_17
        obtain ⟨v1, e_v1⟩ : ∃ q_ : Int32, q_ = (nI k) + 1 := ⟨_, rfl⟩
        refine mj_iinc (x := (nI k)) (v := v1) (L' := [some (.ref a), some (.int (nI m)), some (.int z), some (.int v1)]) d_By_nextNumber_47 rfl (by rw [e_v1]; rfl) (by decide) rfl rfl ?_
        refine mj_goto (tgt := 4) d_By_nextNumber_50 (by decide) ?_
        rw [e_v1, nI_1]
        refine ih (k + 1) b z h B hcu (by omega) ?_
        rw [show by_next (j + 1) k b z = by_next j (k + 1) b z by rw [by_next, if_neg hge]] at kk
        exact kk
      · have hlt : b.2.1 < b.1 := by
          rcases Nat.lt_or_ge b.2.1 b.1 with q | q
          · exact q
          · exact absurd (nI_le q (by omega)) c_17
        refine mj_iload_n d_By_nextNumber_20 rfl ?_
        refine mj_aload_n d_By_nextNumber_21 rfl ?_
        refine mj_get ok_By (k := 0) (by decide) fl_By_7 d_By_nextNumber_22 h1 rfl ?_
        refine mj_aload_n d_By_nextNumber_25 rfl ?_
        refine mj_get ok_By (k := 2) (by decide) fl_By_17 d_By_nextNumber_26 h1 rfl ?_
        refine mj_iald d_By_nextNumber_29 h2 (vp_in_nI (by omega) h4) ?_
        refine mj_bipush (v := 8) d_By_nextNumber_30 (by decide) ?_
        refine mj_iload_n d_By_nextNumber_32 rfl ?_
        refine mj_imul d_By_nextNumber_33 ?_
        refine mj_ishl d_By_nextNumber_34 ?_
        refine mj_ior d_By_nextNumber_35 ?_
        refine mj_topi (fun v2 e_v2 => ?_)
        refine mj_istore_n (L' := [some (.ref a), some (.int (nI m)), some (.int v2), some (.int (nI k))]) d_By_nextNumber_36 (by decide) rfl rfl ?_
        refine mj_aload_n d_By_nextNumber_37 rfl ?_
        refine mj_dup d_By_nextNumber_38 rfl ?_
        refine mj_get ok_By (k := 2) (by decide) fl_By_17 d_By_nextNumber_39 h1 rfl ?_
        refine mj_iconst (v := 1) d_By_nextNumber_42 (by decide) ?_
        refine mj_iadd d_By_nextNumber_43 ?_
        refine mj_topi (fun v3 e_v3 => ?_)
        refine mj_put ok_By (k := 2) (by decide) fl_By_17 rfl (fun _ => rfl) (fun _ => rfl) (Nat.le_of_ble_eq_true rfl) d_By_nextNumber_44 h1 ?_
        obtain ⟨hh4, e_hh4⟩ : ∃ q_ : mj_H, q_ = h.set a (.inr (1, [.ref c, .int (nI b.1), .int v3])) := ⟨_, rfl⟩
        refine mj_hp e_hh4 ?_
        have k5 : hh4[a]? = some (.inr (1, [.ref c, .int (nI b.1), .int v3])) := by rw [e_hh4]; exact mj_sS h1
        have k6 := mj_sN (y := .inr (1, [.ref c, .int (nI b.1), .int v3])) B.ne h2
        rw [← e_hh4] at k6
        obtain ⟨v7, e_v7⟩ : ∃ q_ : Int32, q_ = (nI k) + 1 := ⟨_, rfl⟩
        refine mj_iinc (x := (nI k)) (v := v7) (L' := [some (.ref a), some (.int (nI m)), some (.int v2), some (.int v7)]) d_By_nextNumber_47 rfl (by rw [e_v7]; rfl) (by decide) rfl rfl ?_
        refine mj_goto (tgt := 4) d_By_nextNumber_50 (by decide) ?_
        rw [e_v7, nI_1]
        have e8 : hh4 = by_up h a c n (b.1, b.2.1 + 1, b.2.2) := by
          rw [B.obj (b' := (b.1, b.2.1 + 1, b.2.2)) rfl, e_hh4, e_v3, nI_1]
          rfl
        rw [e8]
        refine ih (k + 1) _ _ _ (B.up (b' := (b.1, b.2.1 + 1, b.2.2)) h3) (by show b.2.1 + 1 ≤ b.1; omega) (by omega) ?_
        rw [B.upup]
        rw [show by_next (j + 1) k b z = by_next j (k + 1) (b.1, b.2.1 + 1, b.2.2) v2 by rw [by_next, if_pos hlt, e_v2, nI_clamp (by omega)]] at kk
        exact kk
set_option maxRecDepth 100000 in
set_option maxHeartbeats 4000000 in
theorem c_By_nextNumber {h : mj_H} {a c n : Nat} {b : by_B} (B : By h a c n b) (hcu : b.2.1 ≤ b.1) (m : Nat) (hm : m < 2 ^ 31) : mj_Met M_By_nextNumber (0, 0, none) 0 0 [.ref a, .int (nI m)] h (mj_q (some (.int (by_next m 0 b 0).1)) (by_up h a c n (by_next m 0 b 0).2)) := by
  refine mj_enter (r := 2) rfl rfl (by decide) rfl ?_
  show mj_W M_By_nextNumber _ _ _ _ 0 [some (.ref a), some (.int (nI m)), none, none] [] h
  refine mj_iconst (v := 0) d_By_nextNumber_0 (by decide) ?_
  refine mj_istore_n (L' := [some (.ref a), some (.int (nI m)), some (.int 0), none]) d_By_nextNumber_1 (by decide) rfl rfl ?_
  refine mj_iconst (v := 0) d_By_nextNumber_2 (by decide) ?_
  refine mj_istore_n (L' := [some (.ref a), some (.int (nI m)), some (.int 0), some (.int 0)]) d_By_nextNumber_3 (by decide) rfl rfl ?_
  refine lp_By_nextNumber m hm m 0 b 0 h B hcu (by omega) ?_
  refine mj_iload_n d_By_nextNumber_53 rfl ?_
  exact mj_iret rfl d_By_nextNumber_54 ⟨rfl, rfl⟩
