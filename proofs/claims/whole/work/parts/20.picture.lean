/-! Picture: width, height, channels, letters, types, steps, samples -/
abbrev pi_P : Type := Nat × Nat × Nat × (Nat → Int32) × (Nat → Int32) × (Nat → Int32) × (Nat → Int32)
def pi_o (l t s m : Nat) (p : pi_P) : mj_C := .inr (4, [.int (nI p.1), .int (nI p.2.1), .int (nI p.2.2.1), .ref l, .ref t, .ref s, .ref m])
def Pi (h : mj_H) (a l t s m : Nat) (p : pi_P) : Prop := h[a]? = some (pi_o l t s m p) ∧ h[l]? = some (.inl (3, .inl p.2.2.2.1)) ∧ h[t]? = some (.inl (3, .inl p.2.2.2.2.1)) ∧ h[s]? = some (.inl (3, .inl p.2.2.2.2.2.1)) ∧ h[m]? = some (.inl (192, .inl p.2.2.2.2.2.2)) ∧ (l ≠ t ∧ l ≠ s ∧ l ≠ m ∧ t ≠ s ∧ t ≠ m ∧ s ≠ m) ∧ p.1 ≤ 8 ∧ p.2.1 ≤ 8 ∧ p.2.2.1 ≤ 3
def pi_up (h : mj_H) (a l t s m : Nat) (p : pi_P) : mj_H := ((((h.set a (pi_o l t s m p)).set l (.inl (3, .inl p.2.2.2.1))).set t (.inl (3, .inl p.2.2.2.2.1))).set s (.inl (3, .inl p.2.2.2.2.2.1))).set m (.inl (192, .inl p.2.2.2.2.2.2))
theorem pi_fr {h : mj_H} {a l t s m i : Nat} {p : pi_P} (h1 : i ≠ a) (h2 : i ≠ l) (h3 : i ≠ t) (h4 : i ≠ s) (h5 : i ≠ m) : (pi_up h a l t s m p)[i]? = h[i]? := by
  unfold pi_up
  rw [List.getElem?_set_ne (Ne.symm h5), List.getElem?_set_ne (Ne.symm h4), List.getElem?_set_ne (Ne.symm h3), List.getElem?_set_ne (Ne.symm h2), List.getElem?_set_ne (Ne.symm h1)]
theorem Pi.up {h : mj_H} {a l t s m : Nat} {p p' : pi_P} (P : Pi h a l t s m p) (hp : p'.1 ≤ 8 ∧ p'.2.1 ≤ 8 ∧ p'.2.2.1 ≤ 3) : Pi (pi_up h a l t s m p') a l t s m p' := by
  obtain ⟨h1, h2, h3, h4, h5, ⟨n1, n2, n3, n4, n5, n6⟩, -⟩ := P
  have al := mj_ne h1 h2
  have at' := mj_ne h1 h3
  have as' := mj_ne h1 h4
  have am := mj_ne h1 h5
  refine ⟨mj_sN (Ne.symm am) (mj_sN (Ne.symm as') (mj_sN (Ne.symm at') (mj_sN (Ne.symm al) (mj_sS h1)))), mj_sN (Ne.symm n3) (mj_sN (Ne.symm n2) (mj_sN (Ne.symm n1) (mj_sS (mj_sN al h2)))), mj_sN (Ne.symm n5) (mj_sN (Ne.symm n4) (mj_sS (mj_sN n1 (mj_sN at' h3)))), mj_sN (Ne.symm n6) (mj_sS (mj_sN n4 (mj_sN n2 (mj_sN as' h4)))), mj_sS (mj_sN n6 (mj_sN n5 (mj_sN n3 (mj_sN am h5)))), ⟨n1, n2, n3, n4, n5, n6⟩, hp⟩
theorem Pi.same {h h' : mj_H} {a l t s m : Nat} {p : pi_P} (P : Pi h a l t s m p) (hl : h'.length = h.length) (hi : ∀ i, i ≠ a → i ≠ l → i ≠ t → i ≠ s → i ≠ m → h'[i]? = h[i]?) (P' : Pi h' a l t s m p) : h' = h := by
  apply List.ext_getElem?
  intro i
  obtain ⟨h1, h2, h3, h4, h5, -⟩ := P
  obtain ⟨g1, g2, g3, g4, g5, -⟩ := P'
  by_cases q1 : i = a
  · subst q1; rw [h1, g1]
  by_cases q2 : i = l
  · subst q2; rw [h2, g2]
  by_cases q3 : i = t
  · subst q3; rw [h3, g3]
  by_cases q4 : i = s
  · subst q4; rw [h4, g4]
  by_cases q5 : i = m
  · subst q5; rw [h5, g5]
  exact hi i q1 q2 q3 q4 q5
theorem pi_len {h : mj_H} {a l t s m : Nat} {p : pi_P} : (pi_up h a l t s m p).length = h.length := by
  unfold pi_up
  rw [List.length_set, List.length_set, List.length_set, List.length_set, List.length_set]
theorem Pi.upup {h : mj_H} {a l t s m : Nat} {p p1 p2 : pi_P} (P : Pi h a l t s m p) (hp : p1.1 ≤ 8 ∧ p1.2.1 ≤ 8 ∧ p1.2.2.1 ≤ 3) (hq : p2.1 ≤ 8 ∧ p2.2.1 ≤ 8 ∧ p2.2.2.1 ≤ 3) : pi_up (pi_up h a l t s m p1) a l t s m p2 = pi_up h a l t s m p2 := by
  refine Pi.same (P.up hq) (by rw [pi_len, pi_len, pi_len]) (fun i q1 q2 q3 q4 q5 => ?_) ((P.up hp).up hq)
  rw [pi_fr q1 q2 q3 q4 q5, pi_fr q1 q2 q3 q4 q5, pi_fr q1 q2 q3 q4 q5]
theorem Pi.idn {h : mj_H} {a l t s m : Nat} {p : pi_P} (P : Pi h a l t s m p) : pi_up h a l t s m p = h := by
  unfold pi_up
  obtain ⟨h1, h2, h3, h4, h5, -⟩ := P
  rw [mj_sE h1, mj_sE h2, mj_sE h3, mj_sE h4, mj_sE h5]
/-- a heap that differs from h in a picture's cells alone, and holds p' there -/
theorem Pi.to {h h' : mj_H} {a l t s m : Nat} {p p' : pi_P} (P : Pi h a l t s m p) (hl : h'.length = h.length) (hi : ∀ i, i ≠ a → i ≠ l → i ≠ t → i ≠ s → i ≠ m → h'[i]? = h[i]?) (P' : Pi h' a l t s m p') : h' = pi_up h a l t s m p' := by
  refine Pi.same (P.up P'.2.2.2.2.2.2) (by rw [pi_len]; exact hl) (fun i q1 q2 q3 q4 q5 => ?_) P'
  rw [pi_fr q1 q2 q3 q4 q5]
  exact hi i q1 q2 q3 q4 q5
theorem mj_iN {m : Nat} (hm : m < 2 ^ 31) {x : Int32} : nI m ≤ x ↔ (m : Int) ≤ x.toInt := by rw [Int32.le_iff_toInt_le, nI_toInt hm]
theorem mj_i0 {x : Int32} : x < 0 ↔ x.toInt < 0 := by rw [Int32.lt_iff_toInt_lt, Int32.toInt_zero]
theorem mj_of {x : Int32} {m : Nat} (h0 : ¬ x < 0) (h1 : ¬ nI m ≤ x) (hm : m < 2 ^ 31) : ∃ j : Nat, j < m ∧ x = nI j := by
  rcases pk_ix x hm with q | q | q
  · exact absurd q h0
  · exact absurd q h1
  · exact q
set_option maxRecDepth 100000 in
set_option maxHeartbeats 4000000 in
theorem c_Pi_isOnStep {h : mj_H} {a l t s m : Nat} {p : pi_P} (P : Pi h a l t s m p) {c y : Nat} (hc : c < 3) (hy : y < 2 ^ 31) : mj_Met M_Pi_isOnStep (0, 0, none) 0 0 [.ref a, .int (nI c), .int (nI y)] h (mj_q (some (.int (if p.2.2.2.2.2.1 c = 1 ∨ y % 2 = 0 then 1 else 0))) h) := by
  obtain ⟨h1, h2, h3, h4, h5, ⟨n1, n2, n3, n4, n5, n6⟩, w1, w2, w3⟩ := id P
  refine mj_enter (r := 0) rfl rfl (by decide) rfl ?_
  show mj_W M_Pi_isOnStep _ _ _ _ 0 [some (.ref a), some (.int (nI c)), some (.int (nI y))] [] h
  refine mj_aload_n d_Pi_isOnStep_0 rfl ?_
  refine mj_get ok_Pi (k := 5) (by decide) fl_Pi_18 d_Pi_isOnStep_1 h1 rfl ?_
  refine mj_iload_n d_Pi_isOnStep_4 rfl ?_
  refine mj_iald d_Pi_isOnStep_5 h4 (vp_in_nI hc (by decide)) ?_
  refine mj_iconst (v := 1) d_Pi_isOnStep_6 (by decide) ?_
  refine mj_icmp_eq (tgt := 16) d_Pi_isOnStep_7 (by decide) (fun c_7 => ?_) (fun c_7 => ?_)
  · refine mj_iconst (v := 1) d_Pi_isOnStep_16 (by decide) ?_
    refine mj_goto (tgt := 21) d_Pi_isOnStep_17 (by decide) ?_
    rw [show (nI c).toNatClampNeg = c from nI_clamp (by omega)] at c_7
    exact mj_zret rfl (by decide) d_Pi_isOnStep_21 ⟨by rw [if_pos (Or.inl c_7)], rfl⟩
  · refine mj_iload_n d_Pi_isOnStep_10 rfl ?_
    refine mj_iconst (v := 2) d_Pi_isOnStep_11 (by decide) ?_
    refine mj_irem d_Pi_isOnStep_12 (by decide) ?_
    refine mj_if_ne (tgt := 20) d_Pi_isOnStep_13 (by decide) (fun c_13 => ?_) (fun c_13 => ?_)
    · refine mj_iconst (v := 0) d_Pi_isOnStep_20 (by decide) ?_
      rw [show (nI c).toNatClampNeg = c from nI_clamp (by omega)] at c_7
      rw [show nI y - nI y / 2 * 2 = nI (y % 2) from pk_rem (d := 2) hy (by decide) (by decide)] at c_13
      exact mj_zret rfl (by decide) d_Pi_isOnStep_21 ⟨by rw [if_neg (fun q => q.elim c_7 (fun q => c_13 (by rw [q]; rfl)))], rfl⟩
    · refine mj_iconst (v := 1) d_Pi_isOnStep_16 (by decide) ?_
      refine mj_goto (tgt := 21) d_Pi_isOnStep_17 (by decide) ?_
      rw [show (nI c).toNatClampNeg = c from nI_clamp (by omega)] at c_7
      rw [show nI y - nI y / 2 * 2 = nI (y % 2) from pk_rem (d := 2) hy (by decide) (by decide)] at c_13
      exact mj_zret rfl (by decide) d_Pi_isOnStep_21 ⟨by rw [if_pos (Or.inr (by rw [show (0 : Int32) = nI 0 from rfl, nI_eq (by omega) (by omega)] at c_13; exact c_13))], rfl⟩
def pi_on (p : pi_P) (c y : Nat) : Nat := if p.2.2.2.2.2.1 c = 1 then y else (y + 1) / 2
set_option maxRecDepth 100000 in
set_option maxHeartbeats 4000000 in
theorem c_Pi_onStep {h : mj_H} {a l t s m : Nat} {p : pi_P} (P : Pi h a l t s m p) {c y : Nat} (hc : c < 3) (hy : y < 2 ^ 30) : mj_Met M_Pi_onStep (0, 0, none) 0 0 [.ref a, .int (nI c), .int (nI y)] h (mj_q (some (.int (nI (pi_on p c y)))) h) := by
  obtain ⟨h1, h2, h3, h4, h5, ⟨n1, n2, n3, n4, n5, n6⟩, w1, w2, w3⟩ := id P
  refine mj_enter (r := 0) rfl rfl (by decide) rfl ?_
  show mj_W M_Pi_onStep _ _ _ _ 0 [some (.ref a), some (.int (nI c)), some (.int (nI y))] [] h
  refine mj_aload_n d_Pi_onStep_0 rfl ?_
  refine mj_get ok_Pi (k := 5) (by decide) fl_Pi_18 d_Pi_onStep_1 h1 rfl ?_
  refine mj_iload_n d_Pi_onStep_4 rfl ?_
  refine mj_iald d_Pi_onStep_5 h4 (vp_in_nI hc (by decide)) ?_
  refine mj_iconst (v := 1) d_Pi_onStep_6 (by decide) ?_
  refine mj_icmp_ne (tgt := 14) d_Pi_onStep_7 (by decide) (fun c_7 => ?_) (fun c_7 => ?_)
  · refine mj_iload_n d_Pi_onStep_14 rfl ?_
    refine mj_iconst (v := 1) d_Pi_onStep_15 (by decide) ?_
    refine mj_iadd d_Pi_onStep_16 ?_
    refine mj_iconst (v := 2) d_Pi_onStep_17 (by decide) ?_
    refine mj_idiv d_Pi_onStep_18 (by decide) ?_
    rw [show (nI c).toNatClampNeg = c from nI_clamp (by omega)] at c_7
    exact mj_iret rfl d_Pi_onStep_19 ⟨by unfold pi_on; rw [if_neg c_7, nI_1, show (2 : Int32) = nI 2 from rfl, pk_div (by omega) (by decide) (by decide)], rfl⟩
  · refine mj_iload_n d_Pi_onStep_10 rfl ?_
    refine mj_goto (tgt := 19) d_Pi_onStep_11 (by decide) ?_
    rw [show (nI c).toNatClampNeg = c from nI_clamp (by omega)] at c_7
    exact mj_iret rfl d_Pi_onStep_19 ⟨by unfold pi_on; rw [if_pos c_7], rfl⟩
set_option maxRecDepth 100000 in
set_option maxHeartbeats 4000000 in
theorem c_Pi_columns {h : mj_H} {a l t s m : Nat} {p : pi_P} (P : Pi h a l t s m p) {c : Nat} (hc : c < 3) : mj_Met M_Pi_columns (1, 22, none) 0 0 [.ref a, .int (nI c)] h (mj_q (some (.int (nI (pi_on p c p.1)))) h) := by
  obtain ⟨h1, h2, h3, h4, h5, ⟨n1, n2, n3, n4, n5, n6⟩, w1, w2, w3⟩ := id P
  refine mj_enter (r := 0) rfl rfl (by decide) rfl ?_
  show mj_W M_Pi_columns _ _ _ _ 0 [some (.ref a), some (.int (nI c))] [] h
  refine mj_aload_n d_Pi_columns_0 rfl ?_
  refine mj_iload_n d_Pi_columns_1 rfl ?_
  refine mj_aload_n d_Pi_columns_2 rfl ?_
  refine mj_get ok_Pi (k := 0) (by decide) fl_Pi_24 d_Pi_columns_3 h1 rfl ?_
  refine mj_cV (S := []) (S1 := [.int (nI (pi_on p c p.1))]) (c_Pi_onStep P hc (by omega)) d_Pi_columns_6 cw_Pi_onStep ml_Pi_44 im_Pi_onStep se_Pi_onStep rfl h1 (by decide) rfl (Nat.le_of_ble_eq_true rfl) rfl rfl ?_
  exact mj_iret rfl d_Pi_columns_9 ⟨rfl, rfl⟩
theorem pi_ix (c x y : Nat) : nI c * 64 + nI y * 8 + nI x = nI (64 * c + 8 * y + x) := by
  rw [show (64 : Int32) = nI 64 from rfl, show (8 : Int32) = nI 8 from rfl, pk_mul, pk_mul, nI_add, nI_add, Nat.mul_comm c, Nat.mul_comm y]
set_option maxRecDepth 100000 in
set_option maxHeartbeats 4000000 in
theorem c_Pi_at {h : mj_H} {a l t s m : Nat} {p : pi_P} (P : Pi h a l t s m p) {c x y : Nat} (hc : c < 3) (hx : x < 8) (hy : y < 8) : mj_Met M_Pi_at (0, 0, none) 0 0 [.ref a, .int (nI c), .int (nI x), .int (nI y)] h (mj_q (some (.int (p.2.2.2.2.2.2 (64 * c + 8 * y + x)))) h) := by
  obtain ⟨h1, h2, h3, h4, h5, ⟨n1, n2, n3, n4, n5, n6⟩, w1, w2, w3⟩ := id P
  refine mj_enter (r := 0) rfl rfl (by decide) rfl ?_
  show mj_W M_Pi_at _ _ _ _ 0 [some (.ref a), some (.int (nI c)), some (.int (nI x)), some (.int (nI y))] [] h
  refine mj_aload_n d_Pi_at_0 rfl ?_
  refine mj_get ok_Pi (k := 6) (by decide) fl_Pi_21 d_Pi_at_1 h1 rfl ?_
  refine mj_iload_n d_Pi_at_4 rfl ?_
  refine mj_bipush (v := 64) d_Pi_at_5 (by decide) ?_
  refine mj_imul d_Pi_at_7 ?_
  refine mj_iload_n d_Pi_at_8 rfl ?_
  refine mj_bipush (v := 8) d_Pi_at_9 (by decide) ?_
  refine mj_imul d_Pi_at_11 ?_
  refine mj_iadd d_Pi_at_12 ?_
  refine mj_iload_n d_Pi_at_13 rfl ?_
  refine mj_iadd d_Pi_at_14 ?_
  refine mj_iald d_Pi_at_15 h5 (by rw [pi_ix]; exact vp_in_nI (by omega) (by decide)) ?_
  exact mj_iret rfl d_Pi_at_16 ⟨by rw [pi_ix, nI_clamp (by omega)], rfl⟩
def pi_put (p : pi_P) (c x y : Nat) (b : Int32) : pi_P := (p.1, p.2.1, p.2.2.1, p.2.2.2.1, p.2.2.2.2.1, p.2.2.2.2.2.1, upd p.2.2.2.2.2.2 (64 * c + 8 * y + x) b)
set_option maxRecDepth 100000 in
set_option maxHeartbeats 4000000 in
theorem c_Pi_put {h : mj_H} {a l t s m : Nat} {p : pi_P} (P : Pi h a l t s m p) {c x y : Nat} (hc : c < 3) (hx : x < 8) (hy : y < 8) (b : Int32) : mj_Met M_Pi_put (0, 0, none) 0 0 [.ref a, .int (nI c), .int (nI x), .int (nI y), .int b] h (mj_q none (pi_up h a l t s m (pi_put p c x y b))) := by
  obtain ⟨h1, h2, h3, h4, h5, ⟨n1, n2, n3, n4, n5, n6⟩, w1, w2, w3⟩ := id P
  refine mj_enter (r := 0) rfl rfl (by decide) rfl ?_
  show mj_W M_Pi_put _ _ _ _ 0 [some (.ref a), some (.int (nI c)), some (.int (nI x)), some (.int (nI y)), some (.int b)] [] h
  refine mj_aload_n d_Pi_put_0 rfl ?_
  refine mj_get ok_Pi (k := 6) (by decide) fl_Pi_21 d_Pi_put_1 h1 rfl ?_
  refine mj_iload_n d_Pi_put_4 rfl ?_
  refine mj_bipush (v := 64) d_Pi_put_5 (by decide) ?_
  refine mj_imul d_Pi_put_7 ?_
  refine mj_iload_n d_Pi_put_8 rfl ?_
  refine mj_bipush (v := 8) d_Pi_put_9 (by decide) ?_
  refine mj_imul d_Pi_put_11 ?_
  refine mj_iadd d_Pi_put_12 ?_
  refine mj_iload_n d_Pi_put_13 rfl ?_
  refine mj_iadd d_Pi_put_14 ?_
  refine mj_iload d_Pi_put_15 rfl ?_
  refine mj_iast d_Pi_put_17 h5 (by rw [pi_ix]; exact vp_in_nI (by omega) (by decide)) ?_
  obtain ⟨hh1, e_hh1⟩ : ∃ q_ : mj_H, q_ = h.set m (.inl (192, .inl (upd p.2.2.2.2.2.2 (((((((nI c) * 64)) + (((nI y) * 8)))) + (nI x)) : Int32).toNatClampNeg b))) := ⟨_, rfl⟩
  refine mj_hp e_hh1 ?_
  have k2 := mj_sN (y := .inl (192, .inl (upd p.2.2.2.2.2.2 (((((((nI c) * 64)) + (((nI y) * 8)))) + (nI x)) : Int32).toNatClampNeg b))) (Ne.symm (mj_ne h1 h5)) h1
  rw [← e_hh1] at k2
  have k3 := mj_sN (y := .inl (192, .inl (upd p.2.2.2.2.2.2 (((((((nI c) * 64)) + (((nI y) * 8)))) + (nI x)) : Int32).toNatClampNeg b))) (Ne.symm n3) h2
  rw [← e_hh1] at k3
  have k4 := mj_sN (y := .inl (192, .inl (upd p.2.2.2.2.2.2 (((((((nI c) * 64)) + (((nI y) * 8)))) + (nI x)) : Int32).toNatClampNeg b))) (Ne.symm n5) h3
  rw [← e_hh1] at k4
  have k5 := mj_sN (y := .inl (192, .inl (upd p.2.2.2.2.2.2 (((((((nI c) * 64)) + (((nI y) * 8)))) + (nI x)) : Int32).toNatClampNeg b))) (Ne.symm n6) h4
  rw [← e_hh1] at k5
  have k6 : hh1[m]? = some (.inl (192, .inl (upd p.2.2.2.2.2.2 (((((((nI c) * 64)) + (((nI y) * 8)))) + (nI x)) : Int32).toNatClampNeg b))) := by rw [e_hh1]; exact mj_sS h5
  refine mj_vret rfl d_Pi_put_18 ⟨rfl, P.to (p' := pi_put p c x y b) (by rw [e_hh1, List.length_set]) (fun i _ _ _ _ q => by rw [e_hh1, List.getElem?_set_ne (Ne.symm q)]) ⟨k2, k3, k4, k5, ?_, ⟨n1, n2, n3, n4, n5, n6⟩, w1, w2, w3⟩⟩
  rw [k6, pi_ix, nI_clamp (by omega)]
  rfl
def pi_lst (p : pi_P) : Int32 := if p.2.2.1 = 0 then 97 else p.2.2.2.1 (p.2.2.1 - 1) + 1
set_option maxRecDepth 100000 in
set_option maxHeartbeats 4000000 in
theorem c_Pi_leastLetter {h : mj_H} {a l t s m : Nat} {p : pi_P} (P : Pi h a l t s m p) : mj_Met M_Pi_leastLetter (0, 0, none) 0 0 [.ref a] h (mj_q (some (.int (pi_lst p))) h) := by
  obtain ⟨h1, h2, h3, h4, h5, ⟨n1, n2, n3, n4, n5, n6⟩, w1, w2, w3⟩ := id P
  refine mj_enter (r := 0) rfl rfl (by decide) rfl ?_
  show mj_W M_Pi_leastLetter _ _ _ _ 0 [some (.ref a)] [] h
  refine mj_aload_n d_Pi_leastLetter_0 rfl ?_
  refine mj_get ok_Pi (k := 2) (by decide) fl_Pi_31 d_Pi_leastLetter_1 h1 rfl ?_
  refine mj_if_ne (tgt := 12) d_Pi_leastLetter_4 (by decide) (fun c_4 => ?_) (fun c_4 => ?_)
  · have hn0 : p.2.2.1 ≠ 0 := fun q => c_4 (by rw [q]; rfl)
    have e9 : nI p.2.2.1 - 1 = nI (p.2.2.1 - 1) := by rw [show (1 : Int32) = nI 1 from rfl, pk_sub (by omega)]
    refine mj_aload_n d_Pi_leastLetter_12 rfl ?_
    refine mj_get ok_Pi (k := 3) (by decide) fl_Pi_9 d_Pi_leastLetter_13 h1 rfl ?_
    refine mj_aload_n d_Pi_leastLetter_16 rfl ?_
    refine mj_get ok_Pi (k := 2) (by decide) fl_Pi_31 d_Pi_leastLetter_17 h1 rfl ?_
    refine mj_iconst (v := 1) d_Pi_leastLetter_20 (by decide) ?_
    refine mj_isub d_Pi_leastLetter_21 ?_
    refine mj_iald d_Pi_leastLetter_22 h2 (by rw [e9]; exact vp_in_nI (by omega) (by decide)) ?_
    refine mj_iconst (v := 1) d_Pi_leastLetter_23 (by decide) ?_
    refine mj_iadd d_Pi_leastLetter_24 ?_
    exact mj_iret rfl d_Pi_leastLetter_25 ⟨by unfold pi_lst; rw [if_neg hn0, e9, nI_clamp (by omega)], rfl⟩
  · refine mj_bipush (v := 97) d_Pi_leastLetter_7 (by decide) ?_
    refine mj_goto (tgt := 25) d_Pi_leastLetter_9 (by decide) ?_
    have hn0 : p.2.2.1 = 0 := by rw [show (0 : Int32) = nI 0 from rfl, nI_eq (by omega) (by omega)] at c_4; exact c_4
    exact mj_iret rfl d_Pi_leastLetter_25 ⟨by unfold pi_lst; rw [if_pos hn0], rfl⟩
