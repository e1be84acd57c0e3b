set_option maxRecDepth 10000 in
set_option maxHeartbeats 2000000 in
theorem sh_16 (x : BitVec 32) {s : Nat} (hs : s ≤ 16) : (x.sshiftRight s) &&& 65535#32 = (x >>> s) &&& 65535#32 := by
  apply BitVec.eq_of_getLsbD_eq
  intro i hi
  rw [BitVec.getLsbD_and, BitVec.getLsbD_and, BitVec.getLsbD_sshiftRight, BitVec.getLsbD_ushiftRight]
  by_cases q : i < 16
  · rw [if_pos (by omega)]
    have : ¬ 32 ≤ i := by omega
    simp [this]
  · have e : (65535#32).getLsbD i = false := by
      have e2 : (65535#32) = BitVec.ofNat 32 (2 ^ 16 - 1) := by decide
      rw [e2, BitVec.getLsbD_ofNat, Nat.testBit_two_pow_sub_one]
      simp [q]
    simp [e]
set_option maxRecDepth 10000 in
set_option maxHeartbeats 2000000 in
theorem sv_ush (x : Int32) {hf : Nat} (h : hf < 2) : (x >>> ((16 * nI hf) &&& 31)) &&& 65535 = mj_ush x (nI (16 * hf)) &&& 65535 := by
  apply Int32.toBitVec_inj.mp
  rcases Nat.lt_or_ge hf 1 with q | q
  · obtain rfl : hf = 0 := by omega
    exact sh_16 x.toBitVec (s := 0) (by omega)
  · obtain rfl : hf = 1 := by omega
    exact sh_16 x.toBitVec (s := 16) (by omega)
set_option maxRecDepth 10000 in
set_option maxHeartbeats 2000000 in
theorem tb_fx_at (p : pi_P) (c y sh row nx : Nat) : ∀ (j i : Nat) (f : Nat → Int32), (∀ k, (k < 8 * row + i ∨ 8 * row + i + j ≤ k) → tb_fx p c y sh row j i f k = f k) ∧ ∀ x, i ≤ x → x < i + j → tb_fx p c y sh row j i f (8 * row + x) = mj_ush (p.2.2.2.2.2.2 (64 * c + 8 * (y + row * pi_st p c) + x * pi_st p c)) (nI sh) &&& 65535 := by
  intro j
  induction j with
  | zero => intro i f; exact ⟨fun _ _ => rfl, fun x h1 h2 => by omega⟩
  | succ j ih =>
    intro i f
    obtain ⟨h1, h2⟩ := ih (i + 1) (upd f (8 * row + i) (mj_ush (p.2.2.2.2.2.2 (64 * c + 8 * (y + row * pi_st p c) + i * pi_st p c)) (nI sh) &&& 65535))
    refine ⟨fun k hk => ?_, fun x h3 h4 => ?_⟩
    · unfold tb_fx
      rw [h1 k (by omega), ux_n (by omega)]
    · unfold tb_fx
      by_cases q : x = i
      · subst q
        rw [h1 _ (by omega), ux_s]
      · exact h2 x (by omega) (by omega)
set_option maxRecDepth 10000 in
set_option maxHeartbeats 2000000 in
theorem tb_fy_at (p : pi_P) (c y sh nx : Nat) (hx : nx ≤ 8) : ∀ (j r0 : Nat) (f : Nat → Int32), (∀ k, k < 8 * r0 → tb_fy p c y sh nx j r0 f k = f k) ∧ ∀ row, r0 ≤ row → row < r0 + j → ∀ x, x < nx → tb_fy p c y sh nx j r0 f (8 * row + x) = mj_ush (p.2.2.2.2.2.2 (64 * c + 8 * (y + row * pi_st p c) + x * pi_st p c)) (nI sh) &&& 65535 := by
  intro j
  induction j with
  | zero => intro i f; exact ⟨fun _ _ => rfl, fun x h1 h2 => by omega⟩
  | succ j ih =>
    intro i f
    obtain ⟨h1, h2⟩ := ih (i + 1) (tb_fx p c y sh i nx 0 f)
    obtain ⟨h5, h6⟩ := tb_fx_at p c y sh i nx nx 0 f
    refine ⟨fun k hk => ?_, fun row h3 h4 x hxx => ?_⟩
    · unfold tb_fy
      rw [h1 k (by omega), h5 k (by omega)]
    · unfold tb_fy
      by_cases q : row = i
      · subst q
        rw [h1 _ (by omega), h6 x (by omega) (by omega)]
      · exact h2 row (by omega) (by omega) x hxx
set_option maxRecDepth 10000 in
set_option maxHeartbeats 2000000 in
theorem e_least (a b : Nat) (ha : a < 2 ^ 31) (hb : b < 2 ^ 31) : r_least (nI a) (nI b) = some (nI (wv_min a b)) := by
  unfold r_least wv_min
  by_cases q : b < a
  · rw [if_pos (nI_le (by omega) (by omega)), if_pos q]
  · rw [if_neg q]
    by_cases q2 : b = a
    · rw [q2, if_pos (nI_le (by omega) (by omega))]
    · rw [if_neg (nI_ge (by omega) (by omega))]
set_option maxRecDepth 10000 in
set_option maxHeartbeats 2000000 in
theorem e_w170 {K : Int32 → Int32 → Int32 → Int32 → Int32 → Int32 → mo_G → Option mo_G} {g : mo_G} {nx ny : Nat} {a1 a2 a3 a6 : Int32} (hx8 : nx ≤ 8) (hy8 : ny ≤ 8) : ∀ (n p N : Nat) (f f' : Nat → Int32), T_eq nx ny f f' → 0 < p → p ≤ 8 → 8 ≤ n + p → n < N → ∃ f1, l_waves_170 K N a1 a2 a3 (nI nx) (nI ny) a6 (nI p) (mo_tb g f') = K a1 a2 a3 (nI nx) (nI ny) a6 (mo_tb g f1) ∧ T_eq nx ny (wv_fp nx ny n p f) f1 := by
  have hmn : wv_min nx ny ≤ 8 := by unfold wv_min; split <;> omega
  intro n
  induction n with
  | zero =>
    intro p N f f' hT hp hp8 hn hN
    obtain ⟨N, rfl⟩ : ∃ m, N = m + 1 := ⟨N - 1, by omega⟩
    refine ⟨f', ?_, hT⟩
    rw [l_waves_170, e_least _ _ (by omega) (by omega), Option.bind_some, show (2 : Int32) = nI 2 from rfl, pk_mul, if_pos (nI_lt (by omega) (by omega))]
  | succ n ih =>
    intro p N f f' hT hp hp8 hn hN
    obtain ⟨N, rfl⟩ : ∃ m, N = m + 1 := ⟨N - 1, by omega⟩
    unfold wv_fp
    rw [l_waves_170, e_least _ _ (by omega) (by omega), Option.bind_some, show (2 : Int32) = nI 2 from rfl, pk_mul]
    by_cases q : 2 * p ≤ wv_min nx ny
    · rw [if_neg (nI_nlt q (by omega)), if_pos q]
      obtain ⟨f1, h1, h2⟩ := e_wave (g := g) hx8 hy8 hp hp8 hT
      obtain ⟨f2, h3, h4⟩ := ih (2 * p) N _ f1 h2 (by omega) (by omega) (by omega) (by omega)
      refine ⟨f2, ?_, h4⟩
      rw [h1, Option.bind_some]
      exact h3
    · rw [if_pos (nI_lt (by omega) (by omega)), if_neg q]
      exact ⟨f', rfl, hT⟩
set_option maxRecDepth 10000 in
set_option maxHeartbeats 2000000 in
theorem mo_tr {g : mo_G} {n : Nat} {f t : Nat → Int32} : mo_tb (mo_raw g n f) t = mo_raw (mo_tb g t) n f := by
  unfold mo_tb mo_raw
  refine Prod.ext rfl ?_
  funext i
  show mo_uA (mo_uA g.2 9 f) 11 t i = mo_uA (mo_uA g.2 11 t) 9 f i
  unfold mo_uA
  by_cases q : i = 11
  · subst q
    rfl
  · simp only [if_neg q]
set_option maxRecDepth 10000 in
set_option maxHeartbeats 2000000 in
theorem e_w216 {K : Int32 → Int32 → Int32 → Int32 → Int32 → Int32 → Int32 → mo_G → Option mo_G} {g : mo_G} {nx ny row : Nat} {a1 a2 a3 a5 a6 : Int32} (hx8 : nx ≤ 8) (hr : row < ny) (hy8 : ny ≤ 8) {t t' : Nat → Int32} (hT : T_eq nx ny t t') : ∀ (j i N : Nat) (b : by_B) (f : Nat → Int32), by_eq b f → i + j = nx → b.1 + 2 * j ≤ 384 → j < N → ∃ f', by_eq (tb_gx t row j i b) f' ∧ (tb_gx t row j i b).1 = b.1 + 2 * j ∧ l_waves_216 K N a1 a2 a3 (nI nx) a5 a6 (nI row) (nI i) (mo_raw (mo_tb g t') b.1 f) = K a1 a2 a3 (nI nx) a5 a6 (nI row) (mo_raw (mo_tb g t') (b.1 + 2 * j) f') := by
  intro j
  induction j with
  | zero =>
    intro i N b f hf hi hb hN
    obtain ⟨N, rfl⟩ : ∃ m, N = m + 1 := ⟨N - 1, by omega⟩
    refine ⟨f, hf, rfl, ?_⟩
    rw [l_waves_216, if_pos (nI_le (by omega) (by omega))]
    rfl
  | succ j ih =>
    intro i N b f hf hi hb hN
    obtain ⟨N, rfl⟩ : ∃ m, N = m + 1 := ⟨N - 1, by omega⟩
    obtain ⟨f1, h1, h2⟩ := e_putMany (x := t (8 * row + i)) (g := mo_tb g t') (k := 2) hf (by omega) (by omega)
    have hl := by_addN_1 (t (8 * row + i)) 2 0 b (by omega)
    obtain ⟨f2, h3, h4, h5⟩ := ih (i + 1) N _ f1 h1 (by omega) (by rw [hl]; omega) (by omega)
    rw [hl] at h4 h5
    refine ⟨f2, h3, by unfold tb_gx; rw [h4]; omega, ?_⟩
    rw [l_waves_216, if_neg (nI_ge (by omega) (by omega)), ix2, og_t (vp_in_nI (by omega) (by decide)), nI_clamp (by omega)]
    rw [show (mo_raw (mo_tb g t') b.1 f).2 11 (8 * row + i) = t' (8 * row + i) from rfl, hT row hr i (by omega)]
    show ((r_putMany (t (8 * row + i)) (nI 2) (mo_raw (mo_tb g t') b.1 f)).bind _) = _
    rw [h2, Option.bind_some, nI_1, show b.1 + 2 * (j + 1) = b.1 + 2 + 2 * j by omega]
    exact h5
set_option maxRecDepth 10000 in
set_option maxHeartbeats 2000000 in
theorem e_w206 {K : Int32 → Int32 → Int32 → Int32 → Int32 → Int32 → mo_G → Option mo_G} {g : mo_G} {nx ny : Nat} {a1 a2 a3 a6 : Int32} (hx8 : nx ≤ 8) (hy8 : ny ≤ 8) {t t' : Nat → Int32} (hT : T_eq nx ny t t') : ∀ (j row N : Nat) (b : by_B) (f : Nat → Int32), by_eq b f → row + j = ny → b.1 + 16 * j ≤ 384 → j < N → ∃ f', by_eq (tb_gy t nx j row b) f' ∧ (tb_gy t nx j row b).1 ≤ b.1 + 16 * j ∧ l_waves_206 K N a1 a2 a3 (nI nx) (nI ny) a6 (nI row) (mo_raw (mo_tb g t') b.1 f) = K a1 a2 a3 (nI nx) (nI ny) a6 (mo_raw (mo_tb g t') (tb_gy t nx j row b).1 f') := by
  intro j
  induction j with
  | zero =>
    intro i N b f hf hi hb hN
    obtain ⟨N, rfl⟩ : ∃ m, N = m + 1 := ⟨N - 1, by omega⟩
    refine ⟨f, hf, by show b.1 ≤ _; omega, ?_⟩
    rw [l_waves_206, if_pos (nI_le (by omega) (by omega))]
    rfl
  | succ j ih =>
    intro row N b f hf hi hb hN
    obtain ⟨N, rfl⟩ : ∃ m, N = m + 1 := ⟨N - 1, by omega⟩
    obtain ⟨f1, h1, h2, h3⟩ := e_w216 (K := fun y39 y40 y41 y42 y43 y44 y45 g38 => (fun x1 x2 x3 x4 x5 x6 x8 g => l_waves_206 K N x1 x2 x3 x4 x5 x6 x8 g) y39 y40 y41 y42 y43 y44 (y45 + 1) g38) (g := g) (a1 := a1) (a2 := a2) (a3 := a3) (a5 := nI ny) (a6 := a6) hx8 (row := row) (by omega) hy8 hT nx 0 2000 b f hf (by omega) (by omega) (by omega)
    obtain ⟨f2, h4, h5, h6⟩ := ih (row + 1) N _ f1 h1 (by omega) (by omega) (by omega)
    refine ⟨f2, h4, by unfold tb_gy; omega, ?_⟩
    rw [l_waves_206, if_neg (nI_ge (by omega) (by omega))]
    rw [nI_0, ← h2] at h3
    refine h3.trans ?_
    show l_waves_206 K N _ _ _ _ _ _ (nI row + 1) _ = _
    rw [nI_1]
    exact h6
