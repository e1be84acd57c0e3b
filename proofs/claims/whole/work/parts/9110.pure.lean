def wsum (p : pi_P) (k t : Nat) : Nat → Nat → Nat
  | 0, _ => 0
  | j + 1, c => pi_on p c t * (pi_on p c p.1 * rf_by (p.2.2.2.2.1 c) k) + wsum p k t j (c + 1)
set_option maxRecDepth 10000 in
set_option maxHeartbeats 2000000 in
theorem on_succ (p : pi_P) (c y0 t : Nat) (hy : y0 % 2 = 0) : pi_on p c (t + 1) = pi_on p c t + if p.2.2.2.2.2.1 c = 1 ∨ (y0 + t) % 2 = 0 then 1 else 0 := by
  unfold pi_on
  by_cases q : p.2.2.2.2.2.1 c = 1
  · simp [q]
  · simp only [q, if_false, false_or]
    split <;> omega
set_option maxRecDepth 10000 in
set_option maxHeartbeats 2000000 in
theorem rwC_ws (p : pi_P) (k y0 t : Nat) (hy : y0 % 2 = 0) : ∀ (j c z : Nat), pi_rwC p k (y0 + t) j c z + wsum p k t j c = z + wsum p k (t + 1) j c := by
  intro j
  induction j with
  | zero => intro c z; rfl
  | succ j ih =>
    intro c z
    unfold pi_rwC wsum
    have := ih (c + 1) (if p.2.2.2.2.2.1 c = 1 ∨ (y0 + t) % 2 = 0 then z + pi_on p c p.1 * rf_by (p.2.2.2.2.1 c) k else z)
    rw [on_succ p c y0 t hy, Nat.add_mul]
    by_cases q : p.2.2.2.2.2.1 c = 1 ∨ (y0 + t) % 2 = 0
    · rw [if_pos q] at this ⊢
      rw [if_pos q, Nat.one_mul]
      omega
    · rw [if_neg q] at this ⊢
      rw [if_neg q, Nat.zero_mul]
      omega
set_option maxRecDepth 10000 in
set_option maxHeartbeats 2000000 in
theorem rwY_ws (p : pi_P) (k y0 : Nat) (hy : y0 % 2 = 0) : ∀ (m t z : Nat), pi_rwY p k m (y0 + t) z + wsum p k t p.2.2.1 0 = z + wsum p k (t + m) p.2.2.1 0 := by
  intro m
  induction m with
  | zero => intro t z; rfl
  | succ m ih =>
    intro t z
    unfold pi_rwY
    have h1 := ih (t + 1) (pi_rwC p k (y0 + t) p.2.2.1 0 z)
    have h2 := rwC_ws p k y0 t hy p.2.2.1 0 z
    rw [show y0 + t + 1 = y0 + (t + 1) by omega, show t + (m + 1) = t + 1 + m by omega]
    omega
set_option maxRecDepth 10000 in
set_option maxHeartbeats 2000000 in
theorem ws0 (p : pi_P) (k : Nat) : ∀ (j c : Nat), wsum p k 0 j c = 0 := by
  intro j
  induction j with
  | zero => intro c; rfl
  | succ j ih =>
    intro c
    unfold wsum
    rw [ih, show pi_on p c 0 = 0 by rcases st12 p c with ⟨_, z⟩ | ⟨_, z⟩ <;> rw [z], Nat.zero_mul]
set_option maxRecDepth 10000 in
set_option maxHeartbeats 2000000 in
theorem raw_ws (p : pi_P) (k y0 ln : Nat) (hy : y0 % 2 = 0) : pi_rwY p k ln y0 0 = wsum p k ln p.2.2.1 0 := by
  have := rwY_ws p k y0 hy ln 0 0
  rw [ws0, Nat.add_zero, Nat.add_zero, Nat.zero_add, Nat.zero_add] at this
  exact this
set_option maxRecDepth 10000 in
set_option maxHeartbeats 2000000 in
theorem by4 (t : Int32) (k : Nat) : 2 ≤ rf_by t k ∧ rf_by t k ≤ 4 := by
  unfold rf_by
  split
  · split <;> omega
  · omega
set_option maxRecDepth 10000 in
set_option maxHeartbeats 2000000 in
theorem ln_len (p : pi_P) (c y k : Nat) (df : Int32) : ∀ (j i : Nat) (bf : Int32) (b : by_B), b.1 + 4 * j ≤ 384 → (co_ln p c y k df j i bf b).1 = b.1 + j * rf_by (p.2.2.2.2.1 c) k := by
  intro j
  induction j with
  | zero => intro i bf b h; show b.1 = _; omega
  | succ j ih =>
    intro i bf b h
    have h4 := by4 (p.2.2.2.2.1 c) k
    unfold co_ln
    rw [ih _ _ _ (by rw [by_addN_1 _ _ _ _ (by omega)]; omega), by_addN_1 _ _ _ _ (by omega), Nat.add_mul]
    omega
set_option maxRecDepth 10000 in
set_option maxHeartbeats 2000000 in
theorem lnC_len (p : pi_P) (G : GP p) (y k : Nat) (df : Int32) : ∀ (j c : Nat) (b : by_B), b.1 + 32 * j ≤ 384 → (co_lnC p y k df j c b).1 = pi_rwC p k y j c b.1 ∧ (co_lnC p y k df j c b).1 ≤ b.1 + 32 * j := by
  intro j
  induction j with
  | zero => intro c b h; exact ⟨rfl, by show b.1 ≤ _; omega⟩
  | succ j ih =>
    intro c b h
    have o8 := on_le (p := p) (c := c) G
    unfold co_lnC pi_rwC
    by_cases q : p.2.2.2.2.2.1 c = 1 ∨ y % 2 = 0
    · rw [if_pos q, if_pos q]
      have e := ln_len p c y k df (pi_on p c p.1) 0 0 b (by omega)
      have h4 := by4 (p.2.2.2.2.1 c) k
      have e2 : pi_on p c p.1 * rf_by (p.2.2.2.2.1 c) k ≤ 8 * 4 := Nat.mul_le_mul o8 h4.2
      obtain ⟨h1, h2⟩ := ih (c + 1) _ (by rw [e]; omega)
      rw [h1, e] at *
      exact ⟨rfl, by omega⟩
    · rw [if_neg q, if_neg q]
      obtain ⟨h1, h2⟩ := ih (c + 1) b (by omega)
      exact ⟨h1, by omega⟩
set_option maxRecDepth 10000 in
set_option maxHeartbeats 2000000 in
theorem lnY_len (p : pi_P) (G : GP p) (k : Nat) (df : Int32) : ∀ (j y : Nat) (b : by_B), b.1 + 96 * j ≤ 384 → (co_lnY p k df j y b).1 = pi_rwY p k j y b.1 := by
  have h3 := G.2.2.1
  intro j
  induction j with
  | zero => intro y b h; rfl
  | succ j ih =>
    intro y b h
    unfold co_lnY pi_rwY
    obtain ⟨h1, h2⟩ := lnC_len p G y k df p.2.2.1 0 b (by omega)
    rw [ih _ _ (by omega), h1]
set_option maxRecDepth 10000 in
set_option maxHeartbeats 2000000 in
theorem gx_len (f : Nat → Int32) (row : Nat) : ∀ (j i : Nat) (b : by_B), b.1 + 2 * j ≤ 384 → (tb_gx f row j i b).1 = b.1 + 2 * j := by
  intro j
  induction j with
  | zero => intro i b h; rfl
  | succ j ih =>
    intro i b h
    unfold tb_gx
    rw [ih _ _ (by rw [by_addN_1 _ _ _ _ (by omega)]; omega), by_addN_1 _ _ _ _ (by omega)]
    omega
set_option maxRecDepth 10000 in
set_option maxHeartbeats 2000000 in
theorem gy_len (f : Nat → Int32) (nx : Nat) : ∀ (j row : Nat) (b : by_B), b.1 + j * (2 * nx) ≤ 384 → (tb_gy f nx j row b).1 = b.1 + j * (2 * nx) := by
  intro j
  induction j with
  | zero => intro i b h; show b.1 = _; omega
  | succ j ih =>
    intro i b h
    rw [Nat.add_mul] at h ⊢
    unfold tb_gy
    rw [ih _ _ (by rw [gx_len _ _ _ _ _ (by omega)]; omega), gx_len _ _ _ _ _ (by omega)]
    omega
set_option maxRecDepth 10000 in
set_option maxHeartbeats 2000000 in
theorem tr_len (p : pi_P) (c y sh : Nat) (f : Nat → Int32) (b : by_B) (h8 : p.1 ≤ 8) (h : b.1 + 64 ≤ 384) : (tb_r p c y sh f b).1 = b.1 + pi_ny p c y * (2 * pi_nx p c) ∧ (tb_r p c y sh f b).1 ≤ b.1 + 64 := by
  have e : pi_ny p c y * (2 * pi_nx p c) ≤ 4 * 16 := Nat.mul_le_mul (pi_ny_le _ _ _) (by have := pi_nx_le p c h8; omega)
  unfold tb_r
  rw [gy_len _ _ _ _ _ (by omega)]
  exact ⟨rfl, by omega⟩
set_option maxRecDepth 10000 in
set_option maxHeartbeats 2000000 in
theorem tbC_len (p : pi_P) (G : GP p) (y ln : Nat) (he : pi_end p y 3 = y + ln) : ∀ (j c : Nat) (x : (Nat → Int32) × by_B), x.2.1 + 128 * j ≤ 384 → (co_tbC p y j c x).2.1 = x.2.1 + wsum p 3 ln j c := by
  intro j
  induction j with
  | zero => intro c x h; rfl
  | succ j ih =>
    intro c x h
    have eny : pi_ny p c y = pi_on p c ln := by unfold pi_ny; rw [he, Nat.add_sub_cancel_left]
    unfold co_tbC wsum
    by_cases q : p.2.2.2.2.1 c = 1
    · rw [if_pos q]
      obtain ⟨h1, h2⟩ := tr_len p c y 0 x.1 x.2 G.1.2 (by omega)
      obtain ⟨h3, h4⟩ := tr_len p c y 16 (tb_f p c y 0 x.1) (tb_r p c y 0 x.1 x.2) G.1.2 (by omega)
      rw [ih _ _ (by show (tb_r p c y 16 (tb_f p c y 0 x.1) (tb_r p c y 0 x.1 x.2)).1 + _ ≤ _; omega)]
      show (tb_r p c y 16 (tb_f p c y 0 x.1) (tb_r p c y 0 x.1 x.2)).1 + _ = _
      rw [h3, h1, eny, show pi_nx p c = pi_on p c p.1 from rfl, q, show rf_by 1 3 = 4 from rfl]
      generalize pi_on p c ln = a
      generalize pi_on p c p.1 = d
      rw [show a * (d * 4) = a * (2 * d) + a * (2 * d) by rw [← Nat.mul_add]; congr 1; omega]
      omega
    · rw [if_neg q]
      obtain ⟨h1, h2⟩ := tr_len p c y 0 x.1 x.2 G.1.2 (by omega)
      rw [ih _ _ (by show (tb_r p c y 0 x.1 x.2).1 + _ ≤ _; omega)]
      show (tb_r p c y 0 x.1 x.2).1 + _ = _
      rw [h1, eny, show pi_nx p c = pi_on p c p.1 from rfl, show rf_by (p.2.2.2.2.1 c) 3 = 2 by unfold rf_by; rw [if_neg q], Nat.mul_comm 2]
      omega
