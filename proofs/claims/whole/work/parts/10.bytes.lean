/-! Bytes: length, cursor, cells -/
abbrev by_B : Type := Nat × Nat × (Nat → Int32)
def by_o (c : Nat) (b : by_B) : mj_C := .inr (1, [.ref c, .int (nI b.1), .int (nI b.2.1)])
def by_a (n : Nat) (b : by_B) : mj_C := .inl (n, .inl b.2.2)
def By (h : mj_H) (a c n : Nat) (b : by_B) : Prop := h[a]? = some (by_o c b) ∧ h[c]? = some (by_a n b) ∧ b.1 ≤ n ∧ n < 2 ^ 31
def by_up (h : mj_H) (a c n : Nat) (b : by_B) : mj_H := (h.set a (by_o c b)).set c (by_a n b)
theorem By.ne {h : mj_H} {a c n : Nat} {b : by_B} (B : By h a c n b) : a ≠ c := mj_ne B.1 B.2.1
theorem By.up {h : mj_H} {a c n : Nat} {b b' : by_B} (B : By h a c n b) (hb : b'.1 ≤ n) : By (by_up h a c n b') a c n b' := by
  obtain ⟨h1, h2, h3, h4⟩ := id B
  refine ⟨mj_sN (Ne.symm B.ne) (mj_sS h1), ?_, hb, h4⟩
  exact mj_sS (mj_sN B.ne h2)
theorem By.upup {h : mj_H} {a c n : Nat} {b b1 b2 : by_B} (B : By h a c n b) : by_up (by_up h a c n b1) a c n b2 = by_up h a c n b2 := by
  unfold by_up
  rw [List.set_comm _ _ (Ne.symm B.ne), List.set_set, List.set_set]
theorem By.id {h : mj_H} {a c n : Nat} {b : by_B} (B : By h a c n b) : by_up h a c n b = h := by
  unfold by_up
  rw [mj_sE B.1, mj_sE B.2.1]
theorem By.obj {h : mj_H} {a c n : Nat} {b b' : by_B} (B : By h a c n b) (hf : b'.2.2 = b.2.2) : by_up h a c n b' = h.set a (by_o c b') := by
  unfold by_up
  rw [mj_sE]
  rw [show by_a n b' = by_a n b by unfold by_a; rw [hf]]
  exact mj_sN B.ne B.2.1
theorem By.arr {h : mj_H} {a c n : Nat} {b b' : by_B} (B : By h a c n b) (h1 : b'.1 = b.1) (h2 : b'.2.1 = b.2.1) : by_up h a c n b' = h.set c (by_a n b') := by
  unfold by_up
  rw [show by_o c b' = by_o c b by unfold by_o; rw [h1, h2], mj_sE B.1]
/-- what the methods do -/
def by_get (b : by_B) (k : Int32) : Int32 := if k < 0 then 0 else if k < nI b.1 then b.2.2 k.toNatClampNeg else 0
def by_add (n : Nat) (b : by_B) (x : Int32) : by_B := if b.1 < n then (b.1 + 1, b.2.1, upd b.2.2 b.1 (x &&& 255)) else b
def by_chg (b : by_B) (k x : Int32) : by_B := if k < 0 then b else if k < nI b.1 then (b.1, b.2.1, upd b.2.2 k.toNatClampNeg (x &&& 255)) else b
def by_two (b : by_B) (k : Int32) : Int32 := by_get b k + 256 * by_get b (k + 1)
theorem by_add_le {n : Nat} {b : by_B} (x : Int32) (hb : b.1 ≤ n) : (by_add n b x).1 ≤ n := by
  unfold by_add
  split
  · show b.1 + 1 ≤ n
    omega
  · exact hb
theorem by_chg_le {b : by_B} (k x : Int32) : (by_chg b k x).1 = b.1 := by
  unfold by_chg
  split
  · rfl
  · split <;> rfl
theorem by_in {n : Nat} {k : Int32} {m : Nat} (h0 : ¬ k < 0) (h1 : k < nI m) (hm : m ≤ n) (hn : n < 2 ^ 31) : vp_in k n := by
  obtain ⟨j, hj, rfl⟩ := nI_of h0
  rw [nI_ltI hj (by omega)] at h1
  exact vp_in_nI (by omega) hn
set_option maxRecDepth 100000 in
set_option maxHeartbeats 4000000 in
theorem c_By_at {h : mj_H} {a c n : Nat} {b : by_B} (B : By h a c n b) (k : Int32) : mj_Met M_By_at (0, 0, none) 0 0 [.ref a, .int k] h (mj_q (some (.int (by_get b k))) h) := by
  obtain ⟨h1, h2, h3, h4⟩ := B
  refine mj_enter (r := 0) rfl rfl (by decide) rfl ?_
  show mj_W M_By_at _ _ _ _ 0 [some (.ref a), some (.int k)] [] h
  refine mj_iload_n d_By_at_0 rfl ?_
  refine mj_if_lt (tgt := 21) d_By_at_1 (by decide) (fun c_1 => ?_) (fun c_1 => ?_)
  · refine mj_iconst (v := 0) d_By_at_21 (by decide) ?_
    exact mj_iret rfl d_By_at_22 ⟨by unfold by_get; first | rw [if_pos c_1] | rw [if_neg c_1, if_neg (mj_nl c_9)] | rw [if_neg c_1, if_pos (mj_lt c_9)], rfl⟩
  · refine mj_iload_n d_By_at_4 rfl ?_
    refine mj_aload_n d_By_at_5 rfl ?_
    refine mj_get ok_By (k := 1) (by decide) fl_By_13 d_By_at_6 h1 rfl ?_
    refine mj_icmp_ge (tgt := 21) d_By_at_9 (by decide) (fun c_9 => ?_) (fun c_9 => ?_)
    · refine mj_iconst (v := 0) d_By_at_21 (by decide) ?_
      exact mj_iret rfl d_By_at_22 ⟨by unfold by_get; first | rw [if_pos c_1] | rw [if_neg c_1, if_neg (mj_nl c_9)] | rw [if_neg c_1, if_pos (mj_lt c_9)], rfl⟩
    · refine mj_aload_n d_By_at_12 rfl ?_
      refine mj_get ok_By (k := 0) (by decide) fl_By_7 d_By_at_13 h1 rfl ?_
      refine mj_iload_n d_By_at_16 rfl ?_
      refine mj_iald d_By_at_17 h2 (by_in c_1 (mj_lt c_9) h3 h4) ?_
      refine mj_goto (tgt := 22) d_By_at_18 (by decide) ?_
      exact mj_iret rfl d_By_at_22 ⟨by unfold by_get; first | rw [if_pos c_1] | rw [if_neg c_1, if_neg (mj_nl c_9)] | rw [if_neg c_1, if_pos (mj_lt c_9)], rfl⟩
set_option maxRecDepth 100000 in
set_option maxHeartbeats 4000000 in
theorem c_By_change {h : mj_H} {a c n : Nat} {b : by_B} (B : By h a c n b) (k x : Int32) : mj_Met M_By_change (0, 0, none) 0 0 [.ref a, .int k, .int x] h (mj_q none (by_up h a c n (by_chg b k x))) := by
  obtain ⟨h1, h2, h3, h4⟩ := id B
  refine mj_enter (r := 0) rfl rfl (by decide) rfl ?_
  show mj_W M_By_change _ _ _ _ 0 [some (.ref a), some (.int k), some (.int x)] [] h
  refine mj_iload_n d_By_change_0 rfl ?_
  refine mj_if_lt (tgt := 23) d_By_change_1 (by decide) (fun c_1 => ?_) (fun c_1 => ?_)
  · exact mj_vret rfl d_By_change_23 ⟨rfl, by rw [show by_chg b k x = b by unfold by_chg; first | rw [if_pos c_1] | rw [if_neg c_1, if_neg (mj_nl c_9)]]; exact B.id.symm⟩
  · refine mj_iload_n d_By_change_4 rfl ?_
    refine mj_aload_n d_By_change_5 rfl ?_
    refine mj_get ok_By (k := 1) (by decide) fl_By_13 d_By_change_6 h1 rfl ?_
    refine mj_icmp_ge (tgt := 23) d_By_change_9 (by decide) (fun c_9 => ?_) (fun c_9 => ?_)
    · exact mj_vret rfl d_By_change_23 ⟨rfl, by rw [show by_chg b k x = b by unfold by_chg; first | rw [if_pos c_1] | rw [if_neg c_1, if_neg (mj_nl c_9)]]; exact B.id.symm⟩
    · refine mj_aload_n d_By_change_12 rfl ?_
      refine mj_get ok_By (k := 0) (by decide) fl_By_7 d_By_change_13 h1 rfl ?_
      refine mj_iload_n d_By_change_16 rfl ?_
      refine mj_iload_n d_By_change_17 rfl ?_
      refine mj_sipush (v := 255) d_By_change_18 (by decide) ?_
      refine mj_iand d_By_change_21 ?_
      refine mj_topi (fun v1 e_v1 => ?_)
      refine mj_iast d_By_change_22 h2 (by_in c_1 (mj_lt c_9) h3 h4) ?_
      obtain ⟨hh2, e_hh2⟩ : ∃ q_ : mj_H, q_ = h.set c (.inl (n, .inl (upd b.2.2 (k : Int32).toNatClampNeg v1))) := ⟨_, rfl⟩
      refine mj_hp e_hh2 ?_
      have k3 := mj_sN (y := .inl (n, .inl (upd b.2.2 (k : Int32).toNatClampNeg v1))) (Ne.symm B.ne) h1
      rw [← e_hh2] at k3
      have k4 : hh2[c]? = some (.inl (n, .inl (upd b.2.2 (k : Int32).toNatClampNeg v1))) := by rw [e_hh2]; exact mj_sS h2
      exact mj_vret rfl d_By_change_23 ⟨rfl, by rw [show by_chg b k x = (b.1, b.2.1, upd b.2.2 k.toNatClampNeg (x &&& 255)) by simp only [by_chg, if_neg c_1, if_pos (mj_lt c_9)], B.arr (b' := (b.1, b.2.1, upd b.2.2 k.toNatClampNeg (x &&& 255))) rfl rfl, e_hh2, e_v1]; rfl⟩
set_option maxRecDepth 100000 in
set_option maxHeartbeats 4000000 in
theorem c_By_clear {h : mj_H} {a c n : Nat} {b : by_B} (B : By h a c n b) : mj_Met M_By_clear (0, 0, none) 0 0 [.ref a] h (mj_q none (by_up h a c n (0, 0, b.2.2))) := by
  obtain ⟨h1, h2, h3, h4⟩ := id B
  refine mj_enter (r := 0) rfl rfl (by decide) rfl ?_
  show mj_W M_By_clear _ _ _ _ 0 [some (.ref a)] [] h
  refine mj_aload_n d_By_clear_0 rfl ?_
  refine mj_iconst (v := 0) d_By_clear_1 (by decide) ?_
  refine mj_put ok_By (k := 1) (by decide) fl_By_13 rfl (fun _ => rfl) (fun _ => rfl) (Nat.le_of_ble_eq_true rfl) d_By_clear_2 h1 ?_
  obtain ⟨hh1, e_hh1⟩ : ∃ q_ : mj_H, q_ = h.set a (.inr (1, [.ref c, .int 0, .int (nI b.2.1)])) := ⟨_, rfl⟩
  refine mj_hp e_hh1 ?_
  have k2 : hh1[a]? = some (.inr (1, [.ref c, .int 0, .int (nI b.2.1)])) := by rw [e_hh1]; exact mj_sS h1
  refine mj_aload_n d_By_clear_5 rfl ?_
  refine mj_iconst (v := 0) d_By_clear_6 (by decide) ?_
  refine mj_put ok_By (k := 2) (by decide) fl_By_17 rfl (fun _ => rfl) (fun _ => rfl) (Nat.le_of_ble_eq_true rfl) d_By_clear_7 k2 ?_
  obtain ⟨hh3, e_hh3⟩ : ∃ q_ : mj_H, q_ = hh1.set a (.inr (1, [.ref c, .int 0, .int 0])) := ⟨_, rfl⟩
  refine mj_hp e_hh3 ?_
  have k4 : hh3[a]? = some (.inr (1, [.ref c, .int 0, .int 0])) := by rw [e_hh3]; exact mj_sS k2
  exact mj_vret rfl d_By_clear_10 ⟨rfl, by rw [B.obj (b' := (0, 0, b.2.2)) rfl, e_hh3, e_hh1, List.set_set]; rfl⟩
set_option maxRecDepth 100000 in
set_option maxHeartbeats 4000000 in
theorem c_By_add {h : mj_H} {a c n : Nat} {b : by_B} (B : By h a c n b) (x : Int32) : mj_Met M_By_add (0, 0, none) 0 0 [.ref a, .int x] h (mj_q none (by_up h a c n (by_add n b x))) := by
  obtain ⟨h1, h2, h3, h4⟩ := id B
  refine mj_enter (r := 0) rfl rfl (by decide) rfl ?_
  show mj_W M_By_add _ _ _ _ 0 [some (.ref a), some (.int x)] [] h
  refine mj_aload_n d_By_add_0 rfl ?_
  refine mj_get ok_By (k := 1) (by decide) fl_By_13 d_By_add_1 h1 rfl ?_
  refine mj_aload_n d_By_add_4 rfl ?_
  refine mj_get ok_By (k := 0) (by decide) fl_By_7 d_By_add_5 h1 rfl ?_
  refine mj_alen (v := nI n) d_By_add_8 rfl h2 rfl ?_
  refine mj_icmp_ge (tgt := 36) d_By_add_9 (by decide) (fun c_9 => ?_) (fun c_9 => ?_)
  · have hge : ¬ b.1 < n := fun q => nI_ge q h4 c_9
    exact mj_vret rfl d_By_add_36 ⟨rfl, by rw [show by_add n b x = b by simp only [by_add, if_neg hge]]; exact B.id.symm⟩
  · have hlt : b.1 < n := by
      rcases Nat.lt_or_ge b.1 n with q | q
      · exact q
      · exact absurd (nI_le q (by omega)) c_9
    refine mj_aload_n d_By_add_12 rfl ?_
    refine mj_get ok_By (k := 0) (by decide) fl_By_7 d_By_add_13 h1 rfl ?_
    refine mj_aload_n d_By_add_16 rfl ?_
    refine mj_get ok_By (k := 1) (by decide) fl_By_13 d_By_add_17 h1 rfl ?_
    refine mj_iload_n d_By_add_20 rfl ?_
    refine mj_sipush (v := 255) d_By_add_21 (by decide) ?_
    refine mj_iand d_By_add_24 ?_
    refine mj_topi (fun v1 e_v1 => ?_)
    refine mj_iast d_By_add_25 h2 (vp_in_nI hlt h4) ?_
    obtain ⟨hh2, e_hh2⟩ : ∃ q_ : mj_H, q_ = h.set c (.inl (n, .inl (upd b.2.2 ((nI b.1) : Int32).toNatClampNeg v1))) := ⟨_, rfl⟩
    refine mj_hp e_hh2 ?_
    have k3 := mj_sN (y := .inl (n, .inl (upd b.2.2 ((nI b.1) : Int32).toNatClampNeg v1))) (Ne.symm B.ne) h1
    rw [← e_hh2] at k3
    have k4 : hh2[c]? = some (.inl (n, .inl (upd b.2.2 ((nI b.1) : Int32).toNatClampNeg v1))) := by rw [e_hh2]; exact mj_sS h2
    refine mj_aload_n d_By_add_26 rfl ?_
    refine mj_dup d_By_add_27 rfl ?_
    refine mj_get ok_By (k := 1) (by decide) fl_By_13 d_By_add_28 k3 rfl ?_
    refine mj_iconst (v := 1) d_By_add_31 (by decide) ?_
    refine mj_iadd d_By_add_32 ?_
    refine mj_topi (fun v5 e_v5 => ?_)
    refine mj_put ok_By (k := 1) (by decide) fl_By_13 rfl (fun _ => rfl) (fun _ => rfl) (Nat.le_of_ble_eq_true rfl) d_By_add_33 k3 ?_
    obtain ⟨hh6, e_hh6⟩ : ∃ q_ : mj_H, q_ = hh2.set a (.inr (1, [.ref c, .int v5, .int (nI b.2.1)])) := ⟨_, rfl⟩
    refine mj_hp e_hh6 ?_
    have k7 : hh6[a]? = some (.inr (1, [.ref c, .int v5, .int (nI b.2.1)])) := by rw [e_hh6]; exact mj_sS k3
    have k8 := mj_sN (y := .inr (1, [.ref c, .int v5, .int (nI b.2.1)])) B.ne k4
    rw [← e_hh6] at k8
    refine mj_vret rfl d_By_add_36 ⟨rfl, ?_⟩
    rw [show by_add n b x = (b.1 + 1, b.2.1, upd b.2.2 b.1 (x &&& 255)) by simp only [by_add, if_pos hlt]]
    rw [e_hh6, e_hh2, e_v5, e_v1, nI_clamp (by omega), nI_1]
    unfold by_up
    rw [List.set_comm _ _ (Ne.symm B.ne)]
    rfl
