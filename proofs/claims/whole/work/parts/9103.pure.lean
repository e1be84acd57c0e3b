set_option maxRecDepth 10000 in
set_option maxHeartbeats 2000000 in
theorem e_g50 {K : Int32 → Int32 → Int32 → Int32 → Int32 → mo_G → Option mo_G} {g : mo_G} {p : pi_P} (R : RP g p) (G : GP p) {c y k m : Nat} {a1 a2 : Int32} (hc : c < p.2.2.1) (hy : y < p.2.1) (hmk : m = 0 ∧ ¬ k = 2 ∨ (m = 1 ∨ m = 2) ∧ k = 2) {df : Int32} (hd : df = if m = 2 then 1 else 0) : ∀ (j i n : Nat) (bf : Int32) (b : by_B) (f : Nat → Int32), by_eq b f → i + j = pi_on p c p.1 → b.1 + 4 * j ≤ 384 → j < n → (i = 0 → bf = 0) → ∃ f', by_eq (co_ln p c y k df j i bf b) f' ∧ (co_ln p c y k df j i bf b).1 ≤ b.1 + 4 * j ∧ l_gather_50 K n a1 a2 (nI m) (nI y) (nI c) bf (nI (i * pi_st p c)) (mo_raw g b.1 f) = K a1 a2 (nI m) (nI y) (nI c) (mo_raw g (co_ln p c y k df j i bf b).1 f') := by
  subst hd
  have h8 := G.1.2
  have h3 := G.2.2.1
  intro j
  induction j with
  | zero =>
    intro i n bf b f hf hi hb hn h0
    obtain ⟨n, rfl⟩ : ∃ m, n = m + 1 := ⟨n - 1, by omega⟩
    refine ⟨f, hf, by show b.1 ≤ _; omega, ?_⟩
    have hx := on_ge (p := p) (c := c) (i := i) (by omega)
    have hx2 : i * pi_st p c ≤ 8 * 2 := Nat.mul_le_mul (by unfold pi_on at hi; split at hi <;> omega) (by unfold pi_st; split <;> omega)
    rw [l_gather_50, if_pos (by rw [R.raw.1]; exact nI_le hx (by omega))]
    rfl
  | succ j ih =>
    intro i n bf b f hf hi hb hn h0
    obtain ⟨n, rfl⟩ : ∃ m, n = m + 1 := ⟨n - 1, by omega⟩
    have h4 : rf_by (p.2.2.2.2.1 c) k ≤ 4 := by unfold rf_by; split; split <;> omega; omega
    obtain ⟨f1, h1, h2⟩ := e_putMany (x := (if (if m = 2 then (1 : Int32) else 0) = 0 then g_nb p c y k i else g_nb p c y k i - bf)) (g := g) (k := rf_by (p.2.2.2.2.1 c) k) hf (by omega) h4
    have hl := by_addN_1 (if (if m = 2 then (1 : Int32) else 0) = 0 then g_nb p c y k i else g_nb p c y k i - bf) (rf_by (p.2.2.2.2.1 c) k) 0 b (by omega)
    obtain ⟨f2, h5, h6, h7⟩ := ih (i + 1) n (g_nb p c y k i) _ f1 h1 (by omega) (by rw [hl]; omega) (by omega) (fun q => by omega)
    refine ⟨f2, h5, by rw [hl] at h6; exact Nat.le_trans h6 (by omega), ?_⟩
    rw [e_g1 R.raw G hc hy hmk (by omega) h0, h2, Option.bind_some, og_t (vp_in_nI (by omega) (by decide)), nI_clamp (by omega)]
    rw [show (mo_raw g (b.1 + rf_by (p.2.2.2.2.1 c) k) f1).2 2 c = p.2.2.2.2.2.1 c from (R.2.2.2.1 c hc).2.2, st_eq G hc, nI_add, show i * pi_st p c + pi_st p c = (i + 1) * pi_st p c from (Nat.succ_mul _ _).symm]
    rw [hl] at h7
    exact h7
set_option maxRecDepth 10000 in
set_option maxHeartbeats 2000000 in
theorem on_le {p : pi_P} {c : Nat} (G : GP p) : pi_on p c p.1 ≤ 8 := by
  have := G.1.2
  unfold pi_on
  split <;> omega
set_option maxRecDepth 10000 in
set_option maxHeartbeats 2000000 in
theorem stp_iff {p : pi_P} {c y : Nat} (G : GP p) (hc : c < p.2.2.1) (hy : y < 2 ^ 30) : (nI y - nI y / p.2.2.2.2.2.1 c * p.2.2.2.2.2.1 c = 0) ↔ (p.2.2.2.2.2.1 c = 1 ∨ y % 2 = 0) := by
  rw [st_eq G hc]
  have hs : pi_st p c = 1 ∨ pi_st p c = 2 := by unfold pi_st; split; exact Or.inl rfl; exact Or.inr rfl
  rw [pk_rem (by omega) (by omega) (by omega), ← nI_0, nI_eq (by rcases hs with q | q <;> rw [q] <;> omega) (by omega)]
  rcases hs with q | q
  · rw [q]
    exact ⟨fun _ => Or.inl rfl, fun _ => Nat.mod_one _⟩
  · rw [q]
    constructor
    · exact Or.inr
    · intro h
      rcases h with h | h
      · exact absurd h (by decide)
      · exact h
set_option maxRecDepth 10000 in
set_option maxHeartbeats 2000000 in
theorem stp_ne {p : pi_P} {c : Nat} (G : GP p) (hc : c < p.2.2.1) : ¬ p.2.2.2.2.2.1 c = 0 := by
  rcases (G.2.2.2 c hc).1 with q | q <;> rw [q] <;> decide
set_option maxRecDepth 10000 in
set_option maxHeartbeats 2000000 in
theorem e_g19 {K : Int32 → Int32 → Int32 → Int32 → mo_G → Option mo_G} {g : mo_G} {p : pi_P} (R : RP g p) (G : GP p) {y k m : Nat} {a1 a2 : Int32} (hy : y < p.2.1) (hmk : m = 0 ∧ ¬ k = 2 ∨ (m = 1 ∨ m = 2) ∧ k = 2) {df : Int32} (hd : df = if m = 2 then 1 else 0) : ∀ (j c n : Nat) (b : by_B) (f : Nat → Int32), by_eq b f → c + j = p.2.2.1 → b.1 + 32 * j ≤ 384 → j < n → ∃ f', by_eq (co_lnC p y k df j c b) f' ∧ (co_lnC p y k df j c b).1 ≤ b.1 + 32 * j ∧ l_gather_19 K n a1 a2 (nI m) (nI y) (nI c) (mo_raw g b.1 f) = K a1 a2 (nI m) (nI y) (mo_raw g (co_lnC p y k df j c b).1 f') := by
  have h3 := G.2.2.1
  have hy8 := G.2.1.2
  intro j
  induction j with
  | zero =>
    intro c n b f hf hi hb hn
    obtain ⟨n, rfl⟩ : ∃ m, n = m + 1 := ⟨n - 1, by omega⟩
    refine ⟨f, hf, by show b.1 ≤ _; omega, ?_⟩
    rw [l_gather_19, if_pos (by rw [R.raw.2.2.1]; exact nI_le (by omega) (by omega))]
    rfl
  | succ j ih =>
    intro c n b f hf hi hb hn
    obtain ⟨n, rfl⟩ : ∃ m, n = m + 1 := ⟨n - 1, by omega⟩
    have hc : c < p.2.2.1 := by omega
    rw [l_gather_19, if_neg (by rw [R.raw.2.2.1]; exact nI_ge (by omega) (by omega)), og_t (vp_in_nI (by omega) (by decide)), nI_clamp (by omega)]
    rw [show (mo_raw g b.1 f).2 2 c = p.2.2.2.2.2.1 c from (R.2.2.2.1 c hc).2.2, og_t (stp_ne G hc)]
    by_cases q : p.2.2.2.2.2.1 c = 1 ∨ y % 2 = 0
    · rw [if_pos ((stp_iff G hc (by omega)).mpr q)]
      have o8 := on_le (p := p) (c := c) G
      obtain ⟨f1, h1, h2, h4⟩ := e_g50 (K := fun y10 y11 y12 y13 y14 g9 => j_gather_174 K (fun x1 x2 x3 x4 x5 g => l_gather_19 K n x1 x2 x3 x4 x5 g) y10 y11 y12 y13 y14 g9) R G (a1 := a1) (a2 := a2) hc hy hmk hd (pi_on p c p.1) 0 2000 0 b f hf (by omega) (by omega) (by omega) (fun _ => rfl)
      obtain ⟨f2, h5, h6, h7⟩ := ih (c + 1) n _ f1 h1 (by omega) (by omega) (by omega)
      have e : co_lnC p y k df (j + 1) c b = co_lnC p y k df j (c + 1) (co_ln p c y k df (pi_on p c p.1) 0 0 b) := by rw [co_lnC, if_pos q]
      rw [e]
      refine ⟨f2, h5, by omega, ?_⟩
      rw [Nat.zero_mul] at h4
      rw [← h7]
      refine h4.trans ?_
      unfold j_gather_174
      rw [nI_1]
    · rw [if_neg (fun z => q ((stp_iff G hc (by omega)).mp z))]
      obtain ⟨f2, h5, h6, h7⟩ := ih (c + 1) n b f hf (by omega) (by omega) (by omega)
      have e : co_lnC p y k df (j + 1) c b = co_lnC p y k df j (c + 1) b := by rw [co_lnC, if_neg q]
      rw [e]
      refine ⟨f2, h5, by omega, ?_⟩
      rw [← h7]
      unfold j_gather_174
      rw [nI_1]
set_option maxRecDepth 10000 in
set_option maxHeartbeats 2000000 in
theorem e_g8 {K : mo_G → Option mo_G} {g : mo_G} {p : pi_P} (R : RP g p) (G : GP p) {y0 ln k m : Nat} (hl : y0 + ln ≤ p.2.1) (hmk : m = 0 ∧ ¬ k = 2 ∨ (m = 1 ∨ m = 2) ∧ k = 2) {df : Int32} (hd : df = if m = 2 then 1 else 0) : ∀ (j y n : Nat) (b : by_B) (f : Nat → Int32), by_eq b f → y + j = y0 + ln → b.1 + 96 * j ≤ 384 → j < n → ∃ f', by_eq (co_lnY p k df j y b) f' ∧ (co_lnY p k df j y b).1 ≤ b.1 + 96 * j ∧ l_gather_8 K n (nI y0) (nI ln) (nI m) (nI y) (mo_raw g b.1 f) = K (mo_raw g (co_lnY p k df j y b).1 f') := by
  have h3 := G.2.2.1
  have hy8 := G.2.1.2
  intro j
  induction j with
  | zero =>
    intro c n b f hf hi hb hn
    obtain ⟨n, rfl⟩ : ∃ m, n = m + 1 := ⟨n - 1, by omega⟩
    refine ⟨f, hf, by show b.1 ≤ _; omega, ?_⟩
    rw [l_gather_8, nI_add, if_pos (nI_le (by omega) (by omega))]
    rfl
  | succ j ih =>
    intro y n b f hf hi hb hn
    obtain ⟨n, rfl⟩ : ∃ m, n = m + 1 := ⟨n - 1, by omega⟩
    rw [l_gather_8, nI_add, if_neg (nI_ge (by omega) (by omega))]
    obtain ⟨f1, h1, h2, h4⟩ := e_g19 (K := fun y16 y17 y18 y19 g15 => (fun x1 x2 x3 x4 g => l_gather_8 K n x1 x2 x3 x4 g) y16 y17 y18 (y19 + 1) g15) R G (a1 := nI y0) (a2 := nI ln) (y := y) (by omega) hmk hd p.2.2.1 0 2000 b f hf (by omega) (by omega) (by omega)
    obtain ⟨f2, h5, h6, h7⟩ := ih (y + 1) n _ f1 h1 (by omega) (by omega) (by omega)
    refine ⟨f2, h5, by have : (co_lnY p k df (j + 1) y b) = co_lnY p k df j (y + 1) (co_lnC p y k df p.2.2.1 0 b) := rfl; rw [this]; omega, ?_⟩
    rw [nI_0] at h4
    refine h4.trans ?_
    show l_gather_8 K n (nI y0) (nI ln) (nI m) (nI y + 1) _ = _
    rw [nI_1]
    exact h7
set_option maxRecDepth 10000 in
set_option maxHeartbeats 2000000 in
theorem e_gather {g : mo_G} {p : pi_P} (R : RP g p) (G : GP p) {y0 ln k m : Nat} (hl : y0 + ln ≤ p.2.1) (h4 : ln ≤ 4) (hmk : m = 0 ∧ ¬ k = 2 ∨ (m = 1 ∨ m = 2) ∧ k = 2) {df : Int32} (hd : df = if m = 2 then 1 else 0) (r : by_B) : ∃ f', by_eq (co_lnY p k df ln y0 (0, 0, r.2.2)) f' ∧ (co_lnY p k df ln y0 (0, 0, r.2.2)).1 ≤ 384 ∧ r_gather (nI y0) (nI ln) (nI m) g = some (mo_raw g (co_lnY p k df ln y0 (0, 0, r.2.2)).1 f') := by
  obtain ⟨f', h1, h2, h3⟩ := e_g8 (K := fun g => some g) R G hl hmk hd ln y0 2000 (0, 0, r.2.2) (g.2 9) (fun k hk => absurd hk (Nat.not_lt_zero k)) rfl (by show 0 + _ ≤ _; omega) (by omega)
  refine ⟨f', h1, by have : (0, 0, r.2.2).1 = 0 := rfl; omega, ?_⟩
  rw [← h3]
  show l_gather_8 _ 2000 _ _ _ _ (upd g.1 6 0, g.2) = l_gather_8 _ 2000 _ _ _ _ (upd g.1 6 (nI 0), mo_uA g.2 9 (g.2 9))
  rw [show mo_uA g.2 9 (g.2 9) = g.2 by funext i; unfold mo_uA; split; rename_i q; rw [q]; rfl]
  rfl
