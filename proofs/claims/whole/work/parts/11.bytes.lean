def mj_ush (x y : Int32) : Int32 := (x.toUInt32 >>> (y.toUInt32 &&& Int32.toUInt32 31)).toInt32
def by_addN (n : Nat) (x : Int32) : Nat → Nat → by_B → by_B
  | 0, _, b => b
  | j + 1, k, b => by_addN n x j (k + 1) (by_add n b (mj_ush x (8 * nI k)))
/-- the cells k to k + j of another row behind one's own -/
def by_addP (n : Nat) (b2 : by_B) : Nat → Nat → by_B → by_B
  | 0, _, b => b
  | j + 1, k, b => by_addP n b2 j (k + 1) (by_add n b (by_get b2 (nI k)))
/-- the number that is read, and the cursor behind it -/
def by_next : Nat → Nat → by_B → Int32 → Int32 × by_B
  | 0, _, b, z => (z, b)
  | j + 1, k, b, z => if b.2.1 < b.1 then by_next j (k + 1) (b.1, b.2.1 + 1, b.2.2) (z ||| (b.2.2 b.2.1 <<< ((8 * nI k) &&& 31))) else by_next j (k + 1) b z
theorem mj_gen {k m : Nat} (hk : k < m) (hm : m < 2 ^ 31) : ¬ nI m ≤ nI k := nI_ge hk hm
set_option maxRecDepth 100000 in
set_option maxHeartbeats 4000000 in
theorem c_By_twoAt {h : mj_H} {a c n : Nat} {b : by_B} (B : By h a c n b) (k : Int32) : mj_Met M_By_twoAt (1, 21, none) 0 0 [.ref a, .int k] h (mj_q (some (.int (by_two b k))) h) := by
  obtain ⟨h1, h2, h3, h4⟩ := id B
  refine mj_enter (r := 0) rfl rfl (by decide) rfl ?_
  show mj_W M_By_twoAt _ _ _ _ 0 [some (.ref a), some (.int k)] [] h
  refine mj_aload_n d_By_twoAt_0 rfl ?_
  refine mj_iload_n d_By_twoAt_1 rfl ?_
  refine mj_cV (S := []) (S1 := [.int (by_get b k)]) (c_By_at B k) d_By_twoAt_2 cw_By_at ml_By_24 im_By_at se_By_at rfl h1 (by decide) rfl (Nat.le_of_ble_eq_true rfl) rfl rfl ?_
  refine mj_sipush (v := 256) d_By_twoAt_5 (by decide) ?_
  refine mj_aload_n d_By_twoAt_8 rfl ?_
  refine mj_iload_n d_By_twoAt_9 rfl ?_
  refine mj_iconst (v := 1) d_By_twoAt_10 (by decide) ?_
  refine mj_iadd d_By_twoAt_11 ?_
  refine mj_cV (S := [.int 256, .int (by_get b k)]) (S1 := [.int (by_get b (k + 1)), .int 256, .int (by_get b k)]) (c_By_at B (k + 1)) d_By_twoAt_12 cw_By_at ml_By_24 im_By_at se_By_at rfl h1 (by decide) rfl (Nat.le_of_ble_eq_true rfl) rfl rfl ?_
  refine mj_imul d_By_twoAt_15 ?_
  refine mj_iadd d_By_twoAt_16 ?_
  exact mj_iret rfl d_By_twoAt_17 ⟨rfl, rfl⟩
set_option maxRecDepth 100000 in
set_option maxHeartbeats 4000000 in
theorem lp_By_addNumber {a c n : Nat} (x : Int32) (m : Nat) (hm : m < 2 ^ 31) : ∀ (j k : Nat) (b : by_B) (h : mj_H), By h a c n b → k + j = m → mj_W M_By_addNumber (mj_q none (by_up h a c n (by_addN n x j k b))) (1, 21, none) 0 0 2 [some (.ref a), some (.int x), some (.int (nI m)), some (.int (nI k))] [] h := by
  intro j
  induction j with
  | zero =>
    intro k b h B hk
    obtain ⟨h1, h2, h3, h4⟩ := id B
    refine mj_iload_n d_By_addNumber_2 rfl ?_
    refine mj_iload_n d_By_addNumber_3 rfl ?_
    refine mj_icmp_ge (tgt := 23) d_By_addNumber_4 (by decide) (fun c_4 => ?_) (fun c_4 => ?_)
    · exact mj_vret rfl d_By_addNumber_23 ⟨rfl, B.id.symm⟩
    · exact absurd (nI_le (by omega) (by omega)) c_4
  | succ j ih =>
    intro k b h B hk
    obtain ⟨h1, h2, h3, h4⟩ := id B
    refine mj_iload_n d_By_addNumber_2 rfl ?_
    refine mj_iload_n d_By_addNumber_3 rfl ?_
    refine mj_icmp_ge (tgt := 23) d_By_addNumber_4 (by decide) (fun c_4 => ?_) (fun c_4 => ?_)
    · exact absurd c_4 (nI_ge (by omega) hm)
    · refine mj_aload_n d_By_addNumber_7 rfl ?_
      refine mj_iload_n d_By_addNumber_8 rfl ?_
      refine mj_bipush (v := 8) d_By_addNumber_9 (by decide) ?_
      refine mj_iload_n d_By_addNumber_11 rfl ?_
      refine mj_imul d_By_addNumber_12 ?_
      refine mj_iushr d_By_addNumber_13 rfl ?_
      refine mj_cV (S := []) (S1 := []) (c_By_add B _) d_By_addNumber_14 cw_By_add ml_By_20 im_By_add se_By_add rfl h1 (by decide) rfl (Nat.le_of_ble_eq_true rfl) rfl rfl ?_
      obtain ⟨v1, e_v1⟩ : ∃ q_ : Int32, q_ = (nI k) + 1 := ⟨_, rfl⟩
      refine mj_iinc (x := (nI k)) (v := v1) (L' := [some (.ref a), some (.int x), some (.int (nI m)), some (.int v1)]) d_By_addNumber_17 rfl (by rw [e_v1]; rfl) (by decide) rfl rfl ?_
      refine mj_goto (tgt := 2) d_By_addNumber_20 (by decide) ?_
      have i1 := ih (k + 1) (by_add n b (mj_ush x (8 * nI k))) _ (B.up (by_add_le _ h3)) (by omega)
      rw [B.upup] at i1
      rw [e_v1, nI_1]
      exact i1
set_option maxRecDepth 100000 in
set_option maxHeartbeats 4000000 in
theorem c_By_addNumber {h : mj_H} {a c n : Nat} {b : by_B} (B : By h a c n b) (x : Int32) (m : Nat) (hm : m < 2 ^ 31) : mj_Met M_By_addNumber (1, 21, none) 0 0 [.ref a, .int x, .int (nI m)] h (mj_q none (by_up h a c n (by_addN n x m 0 b))) := by
  refine mj_enter (r := 1) rfl rfl (by decide) rfl ?_
  show mj_W M_By_addNumber _ _ _ _ 0 [some (.ref a), some (.int x), some (.int (nI m)), none] [] h
  refine mj_iconst (v := 0) d_By_addNumber_0 (by decide) ?_
  refine mj_istore_n (L' := [some (.ref a), some (.int x), some (.int (nI m)), some (.int 0)]) d_By_addNumber_1 (by decide) rfl rfl ?_
  exact lp_By_addNumber x m hm m 0 b h B (by omega)
