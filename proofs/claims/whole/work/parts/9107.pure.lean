set_option maxRecDepth 10000 in
set_option maxHeartbeats 2000000 in
theorem st12 (p : pi_P) (c : Nat) : pi_st p c = 1 ∧ (∀ w, pi_on p c w = w) ∨ pi_st p c = 2 ∧ ∀ w, pi_on p c w = (w + 1) / 2 := by
  unfold pi_st pi_on
  by_cases q : p.2.2.2.2.2.1 c = 1
  · exact Or.inl ⟨if_pos q, fun _ => if_pos q⟩
  · exact Or.inr ⟨if_neg q, fun _ => if_neg q⟩
set_option maxRecDepth 10000 in
set_option maxHeartbeats 2000000 in
theorem e_across {p : pi_P} {c w : Nat} (hw : w ≤ 8) : r_across (nI w) (nI (pi_st p c)) = some (nI (pi_on p c w)) := by
  unfold r_across
  rcases st12 p c with ⟨q, z⟩ | ⟨q, z⟩
  · rw [q, z, og_t (by decide), nI_add, nI_pred, pk_div (by omega) (by omega) (by omega), Nat.div_one]
  · rw [q, z, og_t (by decide), nI_add, show w + 2 = (w + 1) + 1 from rfl, nI_pred, pk_div (by omega) (by omega) (by omega)]
set_option maxRecDepth 10000 in
set_option maxHeartbeats 2000000 in
theorem e_dn5 {K : Int32 → Option Int32} {p : pi_P} {c y0 ln : Nat} (hy : y0 % 2 = 0) (hl : y0 + ln ≤ 40) : ∀ (m t N : Nat), t + m = ln → m < N → l_down_5 K N (nI y0) (nI ln) (nI (pi_st p c)) (nI (pi_on p c t)) (nI (y0 + t)) = K (nI (pi_on p c ln)) := by
  intro m
  induction m with
  | zero =>
    intro t N ht hN
    obtain ⟨N, rfl⟩ : ∃ m, N = m + 1 := ⟨N - 1, by omega⟩
    rw [l_down_5, nI_add, if_pos (nI_le (by omega) (by omega)), show t = ln by omega]
  | succ m ih =>
    intro t N ht hN
    obtain ⟨N, rfl⟩ : ∃ m, N = m + 1 := ⟨N - 1, by omega⟩
    have hs : ¬ nI (pi_st p c) = 0 := by rcases st12 p c with ⟨q, _⟩ | ⟨q, _⟩ <;> rw [q] <;> decide
    have := ih (t + 1) N (by omega) (by omega)
    rw [l_down_5, nI_add, if_neg (nI_ge (by omega) (by omega)), og_t hs]
    unfold j_down_23
    rw [nI_1, nI_1, Nat.add_assoc]
    rcases st12 p c with ⟨q, z⟩ | ⟨q, z⟩
    · rw [q, pk_rem (by omega) (by omega) (by omega), Nat.mod_one, if_pos nI_0, ← this, q, z, z]
    · rw [q, pk_rem (by omega) (by omega) (by omega)]
      by_cases r : t % 2 = 0
      · rw [show (y0 + t) % 2 = 0 by omega, if_pos nI_0, ← this, q, z, z, show (t + 1 + 1) / 2 = (t + 1) / 2 + 1 by omega]
      · rw [show (y0 + t) % 2 = 1 by omega, if_neg (by decide), ← this, q, z, z, show (t + 1 + 1) / 2 = (t + 1) / 2 by omega]
set_option maxRecDepth 10000 in
set_option maxHeartbeats 2000000 in
theorem e_down {p : pi_P} {c y0 ln : Nat} (hy : y0 % 2 = 0) (hl : y0 + ln ≤ 40) : r_down (nI y0) (nI ln) (nI (pi_st p c)) = some (nI (pi_on p c ln)) := by
  have := e_dn5 (K := fun y3 => some y3) (p := p) (c := c) hy hl ln 0 2000 (by omega) (by omega)
  rw [Nat.add_zero, show pi_on p c 0 = 0 by rcases st12 p c with ⟨_, z⟩ | ⟨_, z⟩ <;> rw [z]] at this
  exact this
abbrev SV (p : pi_P) (c y hf x : Nat) : Int32 := (p.2.2.2.2.2.2 (64 * c + 8 * y + pi_st p c * x) >>> ((16 * nI hf) &&& 31)) &&& 65535
set_option maxRecDepth 10000 in
set_option maxHeartbeats 2000000 in
theorem RP.tb {g : mo_G} {p : pi_P} {f : Nat → Int32} (h : RP g p) : RP (mo_tb g f) p := h
set_option maxRecDepth 10000 in
set_option maxHeartbeats 2000000 in
theorem ixs (c y s x : Nat) : 64 * nI c + 8 * nI y + nI s * nI x = nI (64 * c + 8 * y + s * x) := by
  rw [pk_mul, ix3]
set_option maxRecDepth 10000 in
set_option maxHeartbeats 2000000 in
theorem e_w98 {K : Int32 → Int32 → Int32 → Int32 → Int32 → Int32 → Int32 → Int32 → mo_G → Option mo_G} {g : mo_G} {p : pi_P} (R : RP g p) (G : GP p) {c y j hf : Nat} {a1 a2 a5 : Int32} (hc : c < p.2.2.1) (hy : y < p.2.1) (hj : j < 8) : ∀ (m i N : Nat) (ft : Nat → Int32), i + m = pi_on p c p.1 → m < N → ∃ ft', l_waves_98 K N a1 a2 (nI c) (nI (pi_on p c p.1)) a5 (nI hf) (nI j) (nI y) (nI i) (mo_tb g ft) = K a1 a2 (nI c) (nI (pi_on p c p.1)) a5 (nI hf) (nI j) (nI y) (mo_tb g ft') ∧ (∀ k, (k < 8 * j + i ∨ 8 * j + pi_on p c p.1 ≤ k) → ft' k = ft k) ∧ ∀ x, i ≤ x → x < pi_on p c p.1 → ft' (8 * j + x) = SV p c y hf x := by
  have h8 := G.1.2
  have h3 := G.2.2.1
  have hy8 := G.2.1.2
  have o8 := on_le (p := p) (c := c) G
  intro m
  induction m with
  | zero =>
    intro i N ft hi hN
    obtain ⟨N, rfl⟩ : ∃ m, N = m + 1 := ⟨N - 1, by omega⟩
    refine ⟨ft, ?_, fun _ _ => rfl, fun x h1 h2 => by omega⟩
    rw [l_waves_98, if_pos (nI_le (by omega) (by omega))]
  | succ m ih =>
    intro i N ft hi hN
    obtain ⟨N, rfl⟩ : ∃ m, N = m + 1 := ⟨N - 1, by omega⟩
    have hx := on_lt (p := p) (c := c) (i := i) G hc (by omega)
    rw [Nat.mul_comm] at hx
    have es : (mo_tb g ft).2 2 c = nI (pi_st p c) := ((R.2.2.2.1 c hc).2.2).trans (st_eq G hc)
    have ev : (mo_tb g ft).2 3 (64 * c + 8 * y + pi_st p c * i) = p.2.2.2.2.2.2 (64 * c + 8 * y + pi_st p c * i) := R.2.2.2.2 _ (by omega)
    obtain ⟨ft', h1, h2, h4⟩ := ih (i + 1) N (upd ft (8 * j + i) (SV p c y hf i)) (by omega) (by omega)
    refine ⟨ft', ?_, fun k hk => ?_, fun x h5 h6 => ?_⟩
    · rw [l_waves_98, if_neg (nI_ge (by omega) (by omega)), og_t (vp_in_nI (by omega) (by decide)), nI_clamp (by omega), es, ixs, og_t (vp_in_nI (by omega) (by decide)), ix2, og_t (vp_in_nI (by omega) (by decide)), nI_clamp (by omega), nI_clamp (by omega), ev, nI_1]
      refine Eq.trans ?_ h1
      show l_waves_98 K N _ _ _ _ _ _ _ _ _ (g.1, mo_uA (mo_uA g.2 11 ft) 11 _) = _
      rw [uA]
      rfl
    · rw [h2 k (by omega), ux_n (by omega)]
    · by_cases q : x = i
      · subst q
        rw [h2 _ (by omega), ux_s]
      · exact h4 x (by omega) h6
set_option maxRecDepth 10000 in
set_option maxHeartbeats 2000000 in
theorem e_w72 {K : Int32 → Int32 → Int32 → Int32 → Int32 → Int32 → mo_G → Option mo_G} {g : mo_G} {p : pi_P} (R : RP g p) (G : GP p) {c y0 ln hf : Nat} {a5 : Int32} (hc : c < p.2.2.1) (hl : y0 + ln ≤ p.2.1) (hy : y0 % 2 = 0) : ∀ (m t N : Nat) (ft : Nat → Int32), t + m = ln → m < N → (∀ row, row < pi_on p c t → ∀ x, x < pi_on p c p.1 → ft (8 * row + x) = SV p c (y0 + row * pi_st p c) hf x) → ∃ ft', l_waves_72 K N (nI y0) (nI ln) (nI c) (nI (pi_on p c p.1)) a5 (nI hf) (nI (pi_on p c t)) (nI (y0 + t)) (mo_tb g ft) = K (nI y0) (nI ln) (nI c) (nI (pi_on p c p.1)) a5 (nI hf) (mo_tb g ft') ∧ ∀ row, row < pi_on p c ln → ∀ x, x < pi_on p c p.1 → ft' (8 * row + x) = SV p c (y0 + row * pi_st p c) hf x := by
  have h8 := G.1.2
  have h3 := G.2.2.1
  have hy8 := G.2.1.2
  have o8 := on_le (p := p) (c := c) G
  intro m
  induction m with
  | zero =>
    intro t N ft ht hN hq
    obtain ⟨N, rfl⟩ : ∃ m, N = m + 1 := ⟨N - 1, by omega⟩
    refine ⟨ft, ?_, by rw [show ln = t by omega]; exact hq⟩
    rw [l_waves_72, nI_add, if_pos (nI_le (by omega) (by omega))]
  | succ m ih =>
    intro t N ft ht hN hq
    obtain ⟨N, rfl⟩ : ∃ m, N = m + 1 := ⟨N - 1, by omega⟩
    have es : (mo_tb g ft).2 2 c = p.2.2.2.2.2.1 c := (R.2.2.2.1 c hc).2.2
    rw [l_waves_72, nI_add, if_neg (nI_ge (by omega) (by omega)), og_t (vp_in_nI (by omega) (by decide)), nI_clamp (by omega), es, og_t (stp_ne G hc)]
    have hiff := stp_iff G hc (y := y0 + t) (by omega)
    have hst : (p.2.2.2.2.2.1 c = 1 ∨ (y0 + t) % 2 = 0) ↔ (pi_on p c (t + 1) = pi_on p c t + 1 ∧ pi_on p c t * pi_st p c = t) := by
      unfold pi_on pi_st
      by_cases q : p.2.2.2.2.2.1 c = 1
      · simp [q]
      · simp only [q, if_false, false_or]
        omega
    have hst2 : ¬ (p.2.2.2.2.2.1 c = 1 ∨ (y0 + t) % 2 = 0) → pi_on p c (t + 1) = pi_on p c t := by
      unfold pi_on
      by_cases q : p.2.2.2.2.2.1 c = 1
      · intro z; exact absurd (Or.inl q) z
      · simp only [q, if_false, false_or]
        omega
    by_cases q : p.2.2.2.2.2.1 c = 1 ∨ (y0 + t) % 2 = 0
    · rw [if_pos (hiff.mpr q)]
      obtain ⟨s1, s2⟩ := hst.mp q
      have s3 : pi_on p c t < 8 := by rcases st12 p c with ⟨_, z⟩ | ⟨_, z⟩ <;> rw [z] <;> omega
      obtain ⟨f1, h1, h2, h4⟩ := e_w98 (K := fun y12 y13 y14 y15 y16 y17 y18 y19 g11 => j_waves_161 K (fun x1 x2 x3 x4 x5 x6 x7 x8 g => l_waves_72 K N x1 x2 x3 x4 x5 x6 x7 x8 g) y12 y13 y14 y15 y16 y17 (y18 + 1) y19 g11) R G (a1 := nI y0) (a2 := nI ln) (a5 := a5) (hf := hf) hc (y := y0 + t) (by omega) s3 (pi_on p c p.1) 0 2000 ft (by omega) (by omega)
      obtain ⟨f2, h5, h6⟩ := ih (t + 1) N f1 (by omega) (by omega) (fun row hr x hx => by
        by_cases z : row = pi_on p c t
        · subst z
          rw [h4 x (by omega) hx, s2]
        · rw [h2 _ (by omega)]
          exact hq row (by omega) x hx)
      refine ⟨f2, ?_, h6⟩
      rw [nI_0] at h1
      refine h1.trans ?_
      rw [← h5]
      unfold j_waves_161
      rw [nI_1, nI_1, s1, Nat.add_assoc]
    · rw [if_neg (fun z => q (hiff.mp z))]
      have s1 := hst2 q
      obtain ⟨f2, h5, h6⟩ := ih (t + 1) N ft (by omega) (by omega) (fun row hr x hx => hq row (by omega) x hx)
      refine ⟨f2, ?_, h6⟩
      rw [← h5]
      unfold j_waves_161
      rw [nI_1, s1, Nat.add_assoc]
