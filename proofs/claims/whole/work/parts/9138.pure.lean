set_option maxRecDepth 10000 in
set_option maxHeartbeats 2000000 in
theorem e_getM {g : mo_G} {b : by_B} {p : pi_P} {v : Int32} (h : RL g b p v) (c x y : Int32) : (pi_hs p c x y → r_get c x y g = some (pi_told p c.toNatClampNeg x.toNatClampNeg y.toNatClampNeg, (upd g.1 5 0, g.2))) ∧ (¬ pi_hs p c x y → r_get c x y g = some (FP.dconst0, (upd g.1 5 1, g.2))) := by
  obtain ⟨R, G, L, I, hv⟩ := h
  have h8 := G.1.2
  have hy8 := G.2.1.2
  have h3 := G.2.2.1
  obtain ⟨a1, a2⟩ := e_has R G c x y
  unfold r_get j_get_20
  constructor
  · intro hh
    rw [a1 hh, Option.bind_some, if_neg (show ¬ (1 : Int32) = 0 by decide), if_neg (show ¬ (1 : Int32) = 0 by decide)]
    obtain ⟨C, X, Y, rfl, rfl, rfl, h1, h2, h4⟩ := hs_nat hh
    rw [og_t (vp_in_nI (by omega) (by decide)), ix3, og_t (vp_in_nI (by omega) (by decide)), nI_clamp (by omega), nI_clamp (by omega), nI_clamp (by omega), nI_clamp (by omega), R.2.2.2.2 _ (by omega), (R.2.2.2.1 C h1).2.1, e_told _ _ (G.2.2.2 C h1).2, Option.bind_some]
    rfl
  · intro hh
    rw [a2 hh, Option.bind_some, if_pos rfl, if_pos rfl]
set_option maxRecDepth 10000 in
set_option maxHeartbeats 2000000 in
theorem i32_nlt {x : Int32} : ¬ x < 0 ↔ 0 ≤ x := by
  rw [Int32.lt_iff_toInt_lt, Int32.le_iff_toInt_le]
  omega
set_option maxRecDepth 10000 in
set_option maxHeartbeats 2000000 in
theorem e_setM {g : mo_G} {b : by_B} {p : pi_P} {v : Int32} (h : RL g b p v) (c x y z : Int32) {w : UInt64} (hw : w = FP.dmul (FP.i2d z) 4593671619917905920) : (¬ rf_val w → r_set c x y w g = some (FP.dconst0, (upd g.1 5 1, g.2))) ∧ (rf_val w → (¬ pi_hs p c x y → r_set c x y w g = some (FP.dconst0, (upd g.1 5 2, g.2))) ∧ (pi_hs p c x y → ∃ g', r_set c x y w g = some (pi_told (pi_put p c.toNatClampNeg x.toNatClampNeg y.toNatClampNeg (sa_of (p.2.2.2.2.1 c.toNatClampNeg) w)) c.toNatClampNeg x.toNatClampNeg y.toNatClampNeg, g') ∧ g'.1 5 = 0 ∧ RL g' b (pi_put p c.toNatClampNeg x.toNatClampNeg y.toNatClampNeg (sa_of (p.2.2.2.2.1 c.toNatClampNeg) w)) v)) := by
  obtain ⟨R, G, L, I, hv⟩ := h
  have h8 := G.1.2
  have hy8 := G.2.1.2
  have h3 := G.2.2.1
  obtain ⟨a1, a2⟩ := e_has R G c x y
  have p1 : ¬ (1 : Int32) ≤ 0 := by decide
  have p2 : ¬ (2 : Int32) ≤ 0 := by decide
  have bad : ¬ rf_val w → ∀ z1 : Int32, (if 0 < Op.cmpValue (FP.dcmp w 5055640609639927018) .g then (j_set_28 c x y w g) else (if 0 ≤ Op.cmpValue (FP.dcmp w 14279012646494702826) .l then (if z1 = 0 then (j_set_42 c x y w 2 g) else (j_set_42 c x y w 0 g)) else (j_set_28 c x y w g))) = some (FP.dconst0, (upd g.1 5 1, g.2)) := by
    intro hb z1
    have e28 : j_set_28 c x y w g = some (FP.dconst0, (upd g.1 5 1, g.2)) := by
      unfold j_set_28 j_set_42
      rw [if_neg p1]
    by_cases q : 0 < Op.cmpValue (FP.dcmp w 5055640609639927018) .g
    · rw [if_pos q]
      exact e28
    · rw [if_neg q, if_neg (fun k => hb ⟨i32_nlt.mpr k, q⟩)]
      exact e28
  have ok : rf_val w → ∀ z1 : Int32, (if 0 < Op.cmpValue (FP.dcmp w 5055640609639927018) .g then (j_set_28 c x y w g) else (if 0 ≤ Op.cmpValue (FP.dcmp w 14279012646494702826) .l then (if z1 = 0 then (j_set_42 c x y w 2 g) else (j_set_42 c x y w 0 g)) else (j_set_28 c x y w g))) = (if z1 = 0 then (j_set_42 c x y w 2 g) else (j_set_42 c x y w 0 g)) := by
    intro hb z1
    rw [if_neg hb.2, if_pos (i32_nlt.mp hb.1)]
  unfold r_set
  constructor
  · intro hb
    by_cases q : pi_hs p c x y
    · rw [a1 q, Option.bind_some]
      exact bad hb _
    · rw [a2 q, Option.bind_some]
      exact bad hb _
  · intro hb
    constructor
    · intro q
      rw [a2 q, Option.bind_some]
      refine (ok hb _).trans ?_
      rw [if_pos rfl]
      unfold j_set_42
      rw [if_neg p2]
    · intro q
      rw [a1 q, Option.bind_some]
      obtain ⟨C, X, Y, rfl, rfl, rfl, h1, h2, h4⟩ := hs_nat q
      have gc := vp_in_nI (n := C) (N := 3) (by omega) (by decide)
      have gq := vp_in_nI (n := 64 * C + 8 * Y + X) (N := 192) (by omega) (by decide)
      have ct := (R.2.2.2.1 C h1).2.1
      rw [nI_clamp (by omega), nI_clamp (by omega), nI_clamp (by omega)]
      obtain ⟨V, hV⟩ : ∃ V, V = sa_of (p.2.2.2.2.1 C) w := ⟨_, rfl⟩
      rw [← hV]
      have e42 : j_set_42 (nI C) (nI X) (nI Y) w 0 g = some (pi_told (pi_put p C X Y V) C X Y, (upd g.1 5 0, mo_uA g.2 3 (upd (g.2 3) (64 * C + 8 * Y + X) V))) := by
        unfold j_set_42
        rw [if_pos (by decide), og_t gc, nI_clamp (by omega), ct, hw, e_bitsFor _ _ (G.2.2.2 C h1).2, ← hw, ← hV, Option.bind_some, ix3, og_t gq, og_t gc, og_t gq, nI_clamp (by omega), ux_s, e_told _ _ (G.2.2.2 C h1).2, Option.bind_some]
        have : pi_told (pi_put p C X Y V) C X Y = sa_told (p.2.2.2.2.1 C) V := by
          unfold pi_told
          show sa_told (p.2.2.2.2.1 C) (upd p.2.2.2.2.2.2 (64 * C + 8 * Y + X) V (64 * C + 8 * Y + X)) = _
          rw [ux_s]
        rw [this]
      refine ⟨_, (ok hb _).trans ((if_neg (show ¬ (1 : Int32) = 0 by decide)).trans e42), rfl, ⟨R.1, R.2.1, R.2.2.1, R.2.2.2.1, fun k hk => ?_⟩, pi_sm_GP pi_sm.put G, pi_sm_GL pi_sm.put L, I, hv⟩
      show upd (g.2 3) (64 * C + 8 * Y + X) V k = upd p.2.2.2.2.2.2 (64 * C + 8 * Y + X) V k
      by_cases m : k = 64 * C + 8 * Y + X
      · rw [m, ux_s, ux_s]
      · rw [ux_n m, ux_n m]
        exact R.2.2.2.2 k hk
set_option maxRecDepth 10000 in
set_option maxHeartbeats 2000000 in
theorem gd_x_s {p : pi_P} {v : UInt64} {c y j x : Nat} {s : UInt64} : gd_x p v c y (j + 1) x s = gd_x p v c y j (x + 1) (gd_1 p v c x y s) := by rw [gd_x]
set_option maxRecDepth 10000 in
set_option maxHeartbeats 2000000 in
theorem gd_x_0 {p : pi_P} {v : UInt64} {c y x : Nat} {s : UInt64} : gd_x p v c y 0 x s = s := by rw [gd_x]
set_option maxRecDepth 10000 in
set_option maxHeartbeats 2000000 in
theorem gd_y_s {p : pi_P} {v : UInt64} {c y j : Nat} {s : UInt64} : gd_y p v c (j + 1) y s = gd_y p v c j (y + 1) (gd_x p v c y p.1 0 s) := by rw [gd_y]
set_option maxRecDepth 10000 in
set_option maxHeartbeats 2000000 in
theorem gd_y_0 {p : pi_P} {v : UInt64} {c y : Nat} {s : UInt64} : gd_y p v c 0 y s = s := by rw [gd_y]
set_option maxRecDepth 10000 in
set_option maxHeartbeats 2000000 in
theorem gd_skip {p : pi_P} {v : UInt64} {c x y : Nat} {s : UInt64} (hc : c < 2 ^ 30) (hx : x < 2 ^ 30) (hy : y < 2 ^ 30) (h : ¬ pi_hn p c x y) : gd_1 p v c x y s = s := by
  unfold gd_1
  rw [if_neg (fun k => h ((pi_hsn (by omega) (by omega) (by omega)).mp k))]
set_option maxRecDepth 10000 in
set_option maxHeartbeats 2000000 in
theorem gd_x_step {p : pi_P} {v : UInt64} {c x y : Nat} {s : UInt64} (G : GP p) (hc : c < 3) (hy : y < 8) (q : x < p.1) (hx : p.2.2.2.2.2.1 c = 1 ∨ x % 2 = 0) : gd_x p v c y (p.1 - x) x s = gd_x p v c y (p.1 - (x + pi_st p c)) (x + pi_st p c) (gd_1 p v c x y s) := by
  have h8 := G.1.2
  obtain ⟨j, hj⟩ : ∃ j, j = p.1 - x - 1 := ⟨_, rfl⟩
  rw [show p.1 - x = j + 1 by omega, gd_x_s]
  unfold pi_st
  by_cases k : p.2.2.2.2.2.1 c = 1
  · rw [if_pos k, show p.1 - (x + 1) = j by omega]
  · rw [if_neg k]
    have hx2 : x % 2 = 0 := by rcases hx with m | m; exact absurd m k; exact m
    by_cases m : x + 1 < p.1
    · obtain ⟨i, hi⟩ : ∃ i, i = p.1 - (x + 2) := ⟨_, rfl⟩
      rw [show j = i + 1 by omega, gd_x_s, ← hi, gd_skip (x := x + 1) (by omega) (by omega) (by omega) (fun z => by
        rcases z.2.2.2 with w | w
        · exact k w
        · have := w.1; omega)]
    · rw [show j = 0 by omega, show p.1 - (x + 2) = 0 by omega, gd_x_0, gd_x_0]
set_option maxRecDepth 10000 in
set_option maxHeartbeats 2000000 in
theorem gd_y_step {p : pi_P} {v : UInt64} {c y : Nat} {s : UInt64} (G : GP p) (hc : c < 3) (q : y < p.2.1) (hx : p.2.2.2.2.2.1 c = 1 ∨ y % 2 = 0) (off : ∀ s : UInt64, ¬ p.2.2.2.2.2.1 c = 1 → gd_x p v c (y + 1) p.1 0 s = s) : gd_y p v c (p.2.1 - y) y s = gd_y p v c (p.2.1 - (y + pi_st p c)) (y + pi_st p c) (gd_x p v c y p.1 0 s) := by
  have h8 := G.2.1.2
  obtain ⟨j, hj⟩ : ∃ j, j = p.2.1 - y - 1 := ⟨_, rfl⟩
  rw [show p.2.1 - y = j + 1 by omega, gd_y_s]
  unfold pi_st
  by_cases k : p.2.2.2.2.2.1 c = 1
  · rw [if_pos k, show p.2.1 - (y + 1) = j by omega]
  · rw [if_neg k]
    by_cases m : y + 1 < p.2.1
    · obtain ⟨i, hi⟩ : ∃ i, i = p.2.1 - (y + 2) := ⟨_, rfl⟩
      rw [show j = i + 1 by omega, gd_y_s, ← hi, off _ k]
    · rw [show j = 0 by omega, show p.2.1 - (y + 2) = 0 by omega, gd_y_0, gd_y_0]
set_option maxRecDepth 10000 in
set_option maxHeartbeats 2000000 in
theorem e_sp70 {K : Int32 → UInt64 → UInt64 → Int32 → mo_G → Option (Prod UInt64 mo_G)} {g : mo_G} {p : pi_P} (R : RP g p) (G : GP p) {c y : Nat} {v : UInt64} (hf : Fl.Fin64 v) (hc : c < p.2.2.1) (hy : y < p.2.1) (hon : p.2.2.2.2.2.1 c = 1 ∨ y % 2 = 0) : ∀ (n x N : Nat) (s : UInt64), p.1 ≤ n + x → (p.2.2.2.2.2.1 c = 1 ∨ x % 2 = 0) → x ≤ 20 → n < N → l_spread_70 K N (nI c) v s (nI y) (nI x) g = K (nI c) v (gd_x p v c y (p.1 - x) x s) (nI y) g := by
  have h8 := G.1.2
  have hy8 := G.2.1.2
  have h3 := G.2.2.1
  intro n
  induction n with
  | zero =>
    intro x N s hn hx hx20 hN
    obtain ⟨N, rfl⟩ : ∃ m, N = m + 1 := ⟨N - 1, by omega⟩
    rw [l_spread_70, R.1, if_pos (nI_le (by omega) (by omega)), show p.1 - x = 0 by omega, gd_x_0]
  | succ n ih =>
    intro x N s hn hx hx20 hN
    obtain ⟨N, rfl⟩ : ∃ m, N = m + 1 := ⟨N - 1, by omega⟩
    by_cases q : x < p.1
    · have hhs : pi_hs p (nI c) (nI x) (nI y) := by
        rw [pi_hsn (by omega) (by omega) (by omega)]
        refine ⟨hc, q, hy, ?_⟩
        rcases hon with k | k
        · exact Or.inl k
        · rcases hx with m | m
          · exact Or.inl m
          · exact Or.inr ⟨m, k⟩
      have gc := vp_in_nI (n := c) (N := 3) (by omega) (by decide)
      have hst := st_eq G hc
      have ev : g.2 3 (64 * c + 8 * y + x) = p.2.2.2.2.2.2 (64 * c + 8 * y + x) := R.2.2.2.2 _ (by omega)
      have eg := gd_x_step (p := p) (v := v) (c := c) (x := x) (y := y) (s := s) G (by omega) (by omega) q hx
      have g1 : gd_1 p v c x y s = if Op.cmpValue (FP.dcmp (sa_abs (FP.dsub (pi_told p c x y) v)) s) .l ≤ 0 then s else sa_abs (FP.dsub (pi_told p c x y) v) := by
        unfold gd_1
        rw [if_pos hhs]
      rw [l_spread_70, R.1, if_neg (nI_ge q (by omega)), og_t gc, ix3, og_t (vp_in_nI (by omega) (by decide)), nI_clamp (by omega), nI_clamp (by omega), ev, (R.2.2.2.1 c hc).2.1, e_told _ _ (G.2.2.2 c hc).2, Option.bind_some]
      have vn : vf_n64 (FP.dsub (pi_told p c x y) v) := Fl.dsub_out (sa_told_n _ _) hf
      rw [show sa_told (p.2.2.2.2.1 c) (p.2.2.2.2.2.2 (64 * c + 8 * y + x)) = pi_told p c x y from rfl, og_t vn]
      have e125 : ∀ S : UInt64, j_spread_125 K (fun x1 x2 x4 x6 x7 g => l_spread_70 K N x1 x2 x4 x6 x7 g) (nI c) v s (nI y) (nI x) S g = l_spread_70 K N (nI c) v (if Op.cmpValue (FP.dcmp S s) .l ≤ 0 then s else S) (nI y) (nI (x + pi_st p c)) g := by
        intro S
        unfold j_spread_125 j_spread_139
        rw [og_t gc, nI_clamp (by omega), (R.2.2.2.1 c hc).2.2, hst, nI_add]
        split
        · rfl
        · rw [og_t gc]
      have e0 : (if 0 ≤ Op.cmpValue (FP.dcmp (FP.dsub (pi_told p c x y) v) FP.dconst0) .g then (j_spread_125 K (fun x1 x2 x4 x6 x7 g => l_spread_70 K N x1 x2 x4 x6 x7 g) (nI c) v s (nI y) (nI x) (FP.dsub (pi_told p c x y) v) g) else (j_spread_125 K (fun x1 x2 x4 x6 x7 g => l_spread_70 K N x1 x2 x4 x6 x7 g) (nI c) v s (nI y) (nI x) (FP.dneg (FP.dsub (pi_told p c x y) v)) g)) = l_spread_70 K N (nI c) v (gd_1 p v c x y s) (nI y) (nI (x + pi_st p c)) g := by
        rw [e125, e125, g1]
        unfold sa_abs
        split <;> rfl
      rw [eg]
      refine Eq.trans e0 ?_
      have s12 := st12 p c
      refine ih (x + pi_st p c) N _ (by rcases s12 with ⟨k, _⟩ | ⟨k, _⟩ <;> omega) ?_ (by rcases s12 with ⟨k, _⟩ | ⟨k, _⟩ <;> omega) (by omega)
      unfold pi_st
      by_cases k : p.2.2.2.2.2.1 c = 1
      · exact Or.inl k
      · rw [if_neg k]
        rcases hx with m | m
        · exact absurd m k
        · exact Or.inr (by omega)
    · rw [l_spread_70, R.1, if_pos (nI_le (by omega) (by omega)), show p.1 - x = 0 by omega, gd_x_0]
set_option maxRecDepth 10000 in
set_option maxHeartbeats 2000000 in
theorem gd_x_off {p : pi_P} {v : UInt64} {c y : Nat} (hc : c < 2 ^ 30) (hy : y < 2 ^ 30) (h1 : ¬ p.2.2.2.2.2.1 c = 1) (h2 : ¬ y % 2 = 0) : ∀ (j x : Nat) (s : UInt64), x + j < 2 ^ 30 → gd_x p v c y j x s = s := by
  intro j
  induction j with
  | zero => intro x s _; exact gd_x_0
  | succ j ih =>
    intro x s hx
    rw [gd_x_s, gd_skip hc (by omega) hy (fun z => by
      rcases z.2.2.2 with w | w
      · exact h1 w
      · exact h2 w.2)]
    exact ih (x + 1) s (by omega)
set_option maxRecDepth 10000 in
set_option maxHeartbeats 2000000 in
theorem e_sp58 {K : UInt64 → mo_G → Option (Prod UInt64 mo_G)} {g : mo_G} {p : pi_P} (R : RP g p) (G : GP p) {c : Nat} {v : UInt64} (hf : Fl.Fin64 v) (hc : c < p.2.2.1) : ∀ (n y N : Nat) (s : UInt64), p.2.1 ≤ n + y → (p.2.2.2.2.2.1 c = 1 ∨ y % 2 = 0) → y ≤ 20 → n < N → l_spread_58 K N (nI c) v s (nI y) g = K (gd_y p v c (p.2.1 - y) y s) g := by
  have h8 := G.1.2
  have hy8 := G.2.1.2
  have h3 := G.2.2.1
  intro n
  induction n with
  | zero =>
    intro y N s hn hx hx20 hN
    obtain ⟨N, rfl⟩ : ∃ m, N = m + 1 := ⟨N - 1, by omega⟩
    rw [l_spread_58, R.2.1, if_pos (nI_le (by omega) (by omega)), show p.2.1 - y = 0 by omega, gd_y_0]
  | succ n ih =>
    intro y N s hn hx hx20 hN
    obtain ⟨N, rfl⟩ : ∃ m, N = m + 1 := ⟨N - 1, by omega⟩
    by_cases q : y < p.2.1
    · have gc := vp_in_nI (n := c) (N := 3) (by omega) (by decide)
      have hst := st_eq G hc
      have eg := gd_y_step (p := p) (v := v) (c := c) (y := y) (s := s) G (by omega) q hx (fun s' k => gd_x_off (by omega) (by omega) k (by rcases hx with m | m; exact absurd m k; omega) p.1 0 s' (by omega))
      rw [l_spread_58, R.2.1, if_neg (nI_ge q (by omega)), eg]
      have a := e_sp70 (K := fun y7 y8 y9 y10 g6 => og (vp_in (y7 : Int32) 3) ((fun x1 x2 x4 x6 g => l_spread_58 K N x1 x2 x4 x6 g) y7 y8 y9 ((y10 + (((g6.2 2) (y7 : Int32).toNatClampNeg)))) g6)) R G hf hc q hx p.1 0 2000 s (by omega) (Or.inr rfl) (by omega) (by omega)
      rw [nI_0, Nat.sub_zero] at a
      rw [a]
      show og (vp_in (nI c) 3) (l_spread_58 K N (nI c) v _ (nI y + g.2 2 (nI c).toNatClampNeg) g) = _
      rw [og_t gc, nI_clamp (by omega), (R.2.2.2.1 c hc).2.2, hst, nI_add]
      have s12 := st12 p c
      refine ih (y + pi_st p c) N _ (by rcases s12 with ⟨k, _⟩ | ⟨k, _⟩ <;> omega) ?_ (by rcases s12 with ⟨k, _⟩ | ⟨k, _⟩ <;> omega) (by omega)
      unfold pi_st
      by_cases k : p.2.2.2.2.2.1 c = 1
      · exact Or.inl k
      · rw [if_neg k]
        rcases hx with m | m
        · exact absurd m k
        · exact Or.inr (by omega)
    · rw [l_spread_58, R.2.1, if_pos (nI_le (by omega) (by omega)), show p.2.1 - y = 0 by omega, gd_y_0]
set_option maxRecDepth 10000 in
set_option maxHeartbeats 2000000 in
theorem e_spreadM {g : mo_G} {b : by_B} {p : pi_P} {v : Int32} (h : RL g b p v) (c : Int32) {w : UInt64} (hf : Fl.Fin64 w) : (¬ rf_val w → r_spread c w g = some (FP.dconst0, (upd g.1 5 1, g.2))) ∧ (rf_val w → (¬ (¬ c < 0 ∧ c < nI p.2.2.1) → r_spread c w g = some (FP.dconst0, (upd g.1 5 2, g.2))) ∧ (¬ c < 0 ∧ c < nI p.2.2.1 → r_spread c w g = some (pi_far p w c.toNatClampNeg, (upd g.1 5 0, g.2)))) := by
  obtain ⟨R, G, L, I, hv⟩ := h
  have h3 := G.2.2.1
  have z0 : (0 : Int32).toInt = 0 := rfl
  have p1 : ¬ (1 : Int32) ≤ 0 := by decide
  have p2 : ¬ (2 : Int32) ≤ 0 := by decide
  unfold r_spread
  have e17 : j_spread_17 c w g = some (FP.dconst0, (upd g.1 5 1, g.2)) := by
    unfold j_spread_17 j_spread_40
    rw [if_neg p1]
  constructor
  · intro hb
    by_cases q : 0 < Op.cmpValue (FP.dcmp w 5055640609639927018) .g
    · rw [if_pos q]
      exact e17
    · rw [if_neg q, if_neg (fun k => hb ⟨i32_nlt.mpr k, q⟩)]
      exact e17
  · intro hb
    rw [if_neg hb.2, if_pos (i32_nlt.mp hb.1), R.2.2.1]
    have iff : (¬ c < 0 ∧ c < nI p.2.2.1) ↔ ((0 : Int32).toInt ≤ c.toInt ∧ c.toInt ≤ (nI p.2.2.1 - 1).toInt) := by
      rw [m1_to (by omega), z0, Int32.lt_iff_toInt_lt, Int32.lt_iff_toInt_lt, z0, nI_toInt (by omega)]
      omega
    constructor
    · intro hn
      rw [in_f (fun k => hn (iff.mpr k)), Option.bind_some, if_pos rfl]
      unfold j_spread_40
      rw [if_neg p2]
    · intro hy
      rw [in_t (iff.mp hy), Option.bind_some, if_neg (by decide)]
      unfold j_spread_40
      rw [if_pos (by decide)]
      obtain ⟨C, hC, rfl⟩ := nI_of hy.1
      have hc : C < p.2.2.1 := (nI_ltI hC (by omega)).mp hy.2
      have := e_sp58 (K := fun y13 g12 => some (y13, g12)) (g := (upd g.1 5 0, g.2)) R G hf hc p.2.1 0 2000 FP.dconst0 (by omega) (Or.inr rfl) (by omega) (by have := G.2.1.2; omega)
      rw [nI_0, Nat.sub_zero] at this
      rw [nI_clamp hC]
      exact this
