set_option maxRecDepth 10000 in
set_option maxHeartbeats 2000000 in
theorem e_d13 {K : mo_G → Option (Prod Int32 mo_G)} {g : mo_G} : ∀ (j i N : Nat) (f : Nat → Int32), i + j = 192 → j < N → ∃ f', (∀ k, i ≤ k → k < 192 → f' k = 0) ∧ (∀ k, k < i → f' k = f k) ∧ l_decode_13 K N (nI i) (g.1, mo_uA g.2 8 f) = K (g.1, mo_uA g.2 8 f') := by
  intro j
  induction j with
  | zero =>
    intro i N f hi hN
    obtain ⟨N, rfl⟩ : ∃ m, N = m + 1 := ⟨N - 1, by omega⟩
    refine ⟨f, fun k h1 h2 => by omega, fun _ _ => rfl, ?_⟩
    rw [l_decode_13, if_pos (show (192 : Int32) ≤ nI i from nI_le (a := 192) (by omega) (by omega))]
  | succ j ih =>
    intro i N f hi hN
    obtain ⟨N, rfl⟩ : ∃ m, N = m + 1 := ⟨N - 1, by omega⟩
    obtain ⟨f', h1, h2, h3⟩ := ih (i + 1) N (upd f i 0) (by omega) (by omega)
    refine ⟨f', fun k a b => ?_, fun k a => ?_, ?_⟩
    · rcases Nat.lt_or_ge i k with z | z
      · exact h1 k (by omega) b
      · rw [h2 k (by omega), show k = i by omega, ux_s]
    · rw [h2 k (by omega), ux_n (by omega)]
    · rw [l_decode_13, if_neg (show ¬ (192 : Int32) ≤ nI i from nI_ge (b := 192) (by omega) (by omega)), og_t (vp_in_nI (by omega) (by decide)), nI_clamp (by omega), nI_1]
      show l_decode_13 K N _ (g.1, mo_uA (mo_uA g.2 8 f) 8 (upd f i 0)) = _
      rw [uA]
      exact h3
set_option maxRecDepth 10000 in
set_option maxHeartbeats 2000000 in
theorem e_d227 {K : mo_G → Option (Prod Int32 mo_G)} : ∀ (j i N : Nat) (g : mo_G), i + j = 192 → j < N → ∃ g', l_decode_227 K N (nI i) g = K g' ∧ g'.1 = g.1 ∧ (∀ q, q ≠ 3 → g'.2 q = g.2 q) ∧ (∀ k, i ≤ k → k < 192 → g'.2 3 k = g.2 8 k) ∧ (∀ k, k < i → g'.2 3 k = g.2 3 k) := by
  intro j
  induction j with
  | zero =>
    intro i N g hi hN
    obtain ⟨N, rfl⟩ : ∃ m, N = m + 1 := ⟨N - 1, by omega⟩
    refine ⟨g, ?_, rfl, fun _ _ => rfl, fun k h1 h2 => by omega, fun _ _ => rfl⟩
    rw [l_decode_227, if_pos (show (192 : Int32) ≤ nI i from nI_le (a := 192) (by omega) (by omega))]
  | succ j ih =>
    intro i N g hi hN
    obtain ⟨N, rfl⟩ : ∃ m, N = m + 1 := ⟨N - 1, by omega⟩
    obtain ⟨g', h1, h2, h3, h4, h5⟩ := ih (i + 1) N (g.1, mo_uA g.2 3 (upd (g.2 3) i (g.2 8 i))) (by omega) (by omega)
    refine ⟨g', ?_, h2, fun q hq => (h3 q hq).trans (uA_n hq), fun k a b => ?_, fun k a => ?_⟩
    · rw [l_decode_227, if_neg (show ¬ (192 : Int32) ≤ nI i from nI_ge (b := 192) (by omega) (by omega)), og_t (vp_in_nI (by omega) (by decide)), og_t (vp_in_nI (by omega) (by decide)), nI_clamp (by omega), nI_1]
      exact h1
    · rcases Nat.lt_or_ge i k with z | z
      · exact h4 k (by omega) b
      · rw [h5 k (by omega), show k = i by omega]
        show upd (g.2 3) i (g.2 8 i) i = _
        rw [ux_s]
    · rw [h5 k (by omega)]
      show upd (g.2 3) i (g.2 8 i) k = _
      rw [ux_n (by omega)]
set_option maxRecDepth 10000 in
set_option maxHeartbeats 2000000 in
theorem e_d175 {K : mo_G → Option (Prod Int32 mo_G)} {n : Nat} (hn : n ≤ 3) : ∀ (j c N : Nat) (g : mo_G), g.1 12 = nI n → c + j = n → j < N → ∃ g', l_decode_175 K N (nI c) g = K g' ∧ g'.1 = g.1 ∧ (∀ q, 3 ≤ q → g'.2 q = g.2 q) ∧ (∀ k, c ≤ k → k < n → g'.2 0 k = g.2 5 k ∧ g'.2 1 k = g.2 6 k ∧ g'.2 2 k = g.2 7 k) ∧ (∀ k, k < c → g'.2 0 k = g.2 0 k ∧ g'.2 1 k = g.2 1 k ∧ g'.2 2 k = g.2 2 k) := by
  intro j
  induction j with
  | zero =>
    intro c N g h12 hc hN
    obtain ⟨N, rfl⟩ : ∃ m, N = m + 1 := ⟨N - 1, by omega⟩
    refine ⟨g, ?_, rfl, fun _ _ => rfl, fun k h1 h2 => by omega, fun _ _ => ⟨rfl, rfl, rfl⟩⟩
    rw [l_decode_175, h12, if_pos (nI_le (by omega) (by omega))]
  | succ j ih =>
    intro c N g h12 hc hN
    obtain ⟨N, rfl⟩ : ∃ m, N = m + 1 := ⟨N - 1, by omega⟩
    obtain ⟨g', h1, h2, h3, h4, h5⟩ := ih (c + 1) N (g.1, mo_uA (mo_uA (mo_uA g.2 0 (upd (g.2 0) c (g.2 5 c))) 1 (upd (g.2 1) c (g.2 6 c))) 2 (upd (g.2 2) c (g.2 7 c))) h12 (by omega) (by omega)
    refine ⟨g', ?_, h2, fun q hq => (h3 q hq).trans ?_, fun k a b => ?_, fun k a => ?_⟩
    · have gc := vp_in_nI (n := c) (N := 3) (by omega) (by decide)
      rw [l_decode_175, h12, if_neg (nI_ge (by omega) (by omega)), og_t gc, og_t gc, og_t gc, og_t gc, og_t gc, og_t gc, nI_clamp (by omega), nI_1]
      exact h1
    · show mo_uA (mo_uA (mo_uA g.2 0 _) 1 _) 2 _ q = _
      rw [uA_n (by omega), uA_n (by omega), uA_n (by omega)]
    · rcases Nat.lt_or_ge c k with z | z
      · exact h4 k (by omega) b
      · obtain ⟨x1, x2, x3⟩ := h5 k (by omega)
        rw [x1, x2, x3, show k = c by omega]
        exact ⟨ux_s, ux_s, ux_s⟩
    · obtain ⟨x1, x2, x3⟩ := h5 k (by omega)
      rw [x1, x2, x3]
      exact ⟨ux_n (by omega), ux_n (by omega), ux_n (by omega)⟩
set_option maxRecDepth 10000 in
set_option maxHeartbeats 2000000 in
theorem ZI.mono {p : pi_P} {lo hi : Nat} (h : ZI p lo) (hh : lo ≤ hi) : ZI p hi := fun c y x h1 h2 h3 h4 => h c y x h1 h2 h3 (fun ⟨c', x', y', a1, a2, a3, a4, a5, a6⟩ => h4 ⟨c', x', y', a1, a2, a3, by omega, a5, a6⟩)
set_option maxRecDepth 10000 in
set_option maxHeartbeats 2000000 in
theorem BD.d68 {K : mo_G → Option (Prod Int32 mo_G)} {g0 g : mo_G} {x : rd_X} (h : BD g0 g x) {N : Nat} {x1 x2 : Int32} : l_decode_68 K (N + 1) x1 x2 g = K g := by
  rw [l_decode_68, if_neg h.pos.2]
  split <;> rfl
set_option maxRecDepth 10000 in
set_option maxHeartbeats 2000000 in
theorem e_d68 {K : mo_G → Option (Prod Int32 mo_G)} {g0 : mo_G} {b : by_B} (I : FI g0 b) {k : Nat} (hk : k < 4) : ∀ (n y N : Nat) (g : mo_G) (x : rd_X) (f : Nat → Int32) (r s : by_B) (p : pi_P), RR g0 g x → x.2.2.2 ≤ b.1 → x.2.2.1 = k → RS g p k → GP p → SE p (g.2 8) → ZI p y → (k = 3 → y % 2 = 0) → p.2.1 ≤ n + y → y ≤ 40 → n + 1 < N → ∃ g', l_decode_68 K N (nI (rf_ln k)) (nI y) g = K g' ∧ ((rd_lc b p.2.1 (rf_ln k) n y x f r s p).1 = true → RR g0 g' (rd_lc b p.2.1 (rf_ln k) n y x f r s p).2.1 ∧ RS g' (rd_lc b p.2.1 (rf_ln k) n y x f r s p).2.2.2.2.2 k ∧ SE (rd_lc b p.2.1 (rf_ln k) n y x f r s p).2.2.2.2.2 (g'.2 8) ∧ pi_sm p (rd_lc b p.2.1 (rf_ln k) n y x f r s p).2.2.2.2.2 ∧ (rd_lc b p.2.1 (rf_ln k) n y x f r s p).2.1.2.2.2 ≤ b.1 ∧ (rd_lc b p.2.1 (rf_ln k) n y x f r s p).2.1.2.2.1 = k) ∧ ((rd_lc b p.2.1 (rf_ln k) n y x f r s p).1 = false → BD g0 g' (rd_lc b p.2.1 (rf_ln k) n y x f r s p).2.1) := by
  have hln : rf_ln k = 1 ∨ rf_ln k = 4 := by unfold rf_ln; split <;> simp
  intro n
  induction n with
  | zero =>
    intro y N g x f r s p h hp hxk RSp G hS hz hy hn hy40 hN
    obtain ⟨N, rfl⟩ : ∃ m, N = m + 1 := ⟨N - 1, by omega⟩
    rw [l_decode_68, RSp.2.1, if_pos (nI_le (by omega) (by omega))]
    exact ⟨g, rfl, fun _ => ⟨h, RSp, hS, pi_sm.rfl, hp, hxk⟩, fun z => Bool.noConfusion z⟩
  | succ n ih =>
    intro y N g x f r s p h hp hxk RSp G hS hz hy hn hy40 hN
    obtain ⟨N, rfl⟩ : ∃ m, N = m + 1 := ⟨N - 1, by omega⟩
    have hy8 := G.2.1.2
    rw [l_decode_68, RSp.2.1]
    unfold rd_lc
    by_cases q : y < p.2.1
    · rw [if_neg (nI_ge q (by omega)), if_pos q, if_pos h.2.2.1, pk_sub (by omega), e_least _ _ (by omega) (by omega), Option.bind_some]
      have he : pi_end p y k = y + wv_min (rf_ln k) (p.2.1 - y) := by
        unfold pi_end wv_min
        split <;> split <;> omega
      have hm4 : wv_min (rf_ln k) (p.2.1 - y) ≤ rf_ln k := by unfold wv_min; split <;> omega
      obtain ⟨g1, a1, a2, a3⟩ := e_rchunk h I hp (by rw [hxk]; exact hk) (by rw [hxk]; exact RSp) G hS hz q (ln := wv_min (rf_ln k) (p.2.1 - y)) (by rw [hxk]; exact he) (by omega) (by rw [hxk]; exact hy) f r s
      rw [a1, Option.bind_some, nI_add]
      rw [hxk] at a2
      by_cases z : (rd_ck b y x f r s p).1 = true
      · rw [if_pos z]
        obtain ⟨b1, b2, b3, b4, b5, b6, b7⟩ := a2 z
        obtain ⟨c, hc⟩ : ∃ c, c = rd_ck b y x f r s p := ⟨_, rfl⟩
        rw [← hc] at b1 b2 b3 b4 b5 b6 b7 ⊢
        obtain ⟨g2, i1, i2, i3⟩ := ih (y + rf_ln k) N g1 c.2.1 c.2.2.1 c.2.2.2.1 c.2.2.2.2.1 c.2.2.2.2.2 b1 b6 b7 b2 (pi_sm_GP b4 G) b3 (b5.mono (by omega)) (fun z3 => by have := hy z3; rw [show rf_ln k = 4 by rw [z3]; rfl]; omega) (by rw [b4.2.1]; omega) (by omega) (by omega)
        rw [b4.2.1] at i2 i3
        refine ⟨g2, i1, fun w => ?_, i3⟩
        obtain ⟨j1, j2, j3, j4, j5, j6⟩ := i2 w
        exact ⟨j1, j2, j3, b4.trans j4, j5, j6⟩
      · rw [if_neg z]
        have B := a3 (bF z)
        obtain ⟨N, rfl⟩ : ∃ m, N = m + 1 := ⟨N - 1, by omega⟩
        exact ⟨g1, B.d68, fun w => absurd w z, fun _ => B⟩
    · rw [if_pos (nI_le (by omega) (by omega)), if_neg q]
      exact ⟨g, rfl, fun _ => ⟨h, RSp, hS, pi_sm.rfl, hp, hxk⟩, fun z => Bool.noConfusion z⟩
set_option maxRecDepth 10000 in
set_option maxHeartbeats 2000000 in
theorem BD.j105 {g0 g : mo_G} {x : rd_X} (h : BD g0 g x) : j_decode_105 g = some (0, (upd g.1 5 (g.1 9), g.2)) := by
  unfold j_decode_105 j_decode_132
  rw [if_neg h.pos.2, if_neg h.pos.1]
set_option maxRecDepth 10000 in
set_option maxHeartbeats 2000000 in
theorem all_HC (b : by_B) (x : rd_X) (f : Nat → Int32) (r s : by_B) (p : pi_P) : rd_all b x f r s p = if (rd_HC b p x).1 = true then (if (rd_tab b (rd_HC b p x).2.2 (rd_HC b p x).2.1).1 = true then rd_fin b (rd_lc b (rd_HC b p x).2.2.2.1 (rf_ln (rd_tab b (rd_HC b p x).2.2 (rd_HC b p x).2.1).2.2.2.1) (rd_HC b p x).2.2.2.1 0 (rd_tab b (rd_HC b p x).2.2 (rd_HC b p x).2.1).2 f r s (rd_HC b p x).2.2) else (false, (rd_tab b (rd_HC b p x).2.2 (rd_HC b p x).2.1).2, f, r, s, (rd_HC b p x).2.2)) else (false, (rd_HC b p x).2.1, f, r, s, (rd_HC b p x).2.2) := by
  unfold rd_all rd_HC
  by_cases q : (rd_hd b p x).1 = true
  · simp only [if_pos q]
  · simp only [if_neg q]
set_option maxRecDepth 10000 in
set_option maxHeartbeats 2000000 in
theorem chL_smp (b : by_B) : ∀ (j : Nat) (x : rd_X) (p : pi_P), (rd_chL b j x p).2.2.2.2.2.2.2.2 = p.2.2.2.2.2.2 := by
  intro j
  induction j with
  | zero => intro x p; rfl
  | succ j ih =>
    intro x p
    unfold rd_chL
    split
    · rw [ih]
      show (pi_add p _ _ _).2.2.2.2.2.2 = _
      unfold pi_add
      split <;> rfl
    · rfl
set_option maxRecDepth 10000 in
set_option maxHeartbeats 2000000 in
theorem hd_zero {b : by_B} {p : pi_P} {x : rd_X} {H : Bool × rd_X × pi_P} (hH : H = rd_HC b p x) (h : H.1 = true) {q : Nat} (hq : q < 192) : H.2.2.2.2.2.2.2.2 q = 0 := by
  rw [hH] at h ⊢
  unfold rd_HC at h ⊢
  by_cases z : (rd_hd b p x).1 = true
  · rw [if_pos z] at h ⊢
    have e : (rd_chs b (rd_hd b p x).2.2 (rd_hd b p x).2.1).2.2.2.2.2.2.2.2 = (rd_hd b p x).2.2.2.2.2.2.2.2 := by
      unfold rd_chs
      split
      · exact chL_smp _ _ _ _
      · rfl
    rw [e]
    unfold rd_hd at z ⊢
    by_cases z1 : (rd_mg b 4 0 x).1 = true
    · rw [if_pos z1] at z ⊢
      by_cases z2 : (rd_h5 b (rd_mg b 4 0 x).2).1 = true
      · rw [if_pos z2]
        show mj_fil 192 0 p.2.2.2.2.2.2 0 q = 0
        exact if_pos ⟨Nat.zero_le _, hq⟩
      · rw [if_neg z2] at z
        exact Bool.noConfusion z
    · rw [if_neg z1] at z
      exact Bool.noConfusion z
  · rw [if_neg z] at h
    exact absurd h z
set_option maxRecDepth 10000 in
set_option maxHeartbeats 2000000 in
theorem e_decode {g : mo_G} {b : by_B} (I : FI g b) (k0 : Nat) (f : Nat → Int32) (r s : by_B) (p : pi_P) : ∃ v g', r_decode g = some (v, g') ∧ (∀ q, q = 3 → g'.1 q = g.1 q) ∧ g'.2 4 = g.2 4 ∧ g'.1 4 = (rd_all b (-2, 0, k0, 0) f r s p).2.1.1 ∧ ((rd_all b (-2, 0, k0, 0) f r s p).1 = true → v = nI (rd_all b (-2, 0, k0, 0) f r s p).2.1.2.2.1 ∧ g'.1 5 = 0 ∧ RP g' (rd_all b (-2, 0, k0, 0) f r s p).2.2.2.2.2 ∧ GP (rd_all b (-2, 0, k0, 0) f r s p).2.2.2.2.2 ∧ GL (rd_all b (-2, 0, k0, 0) f r s p).2.2.2.2.2) ∧ ((rd_all b (-2, 0, k0, 0) f r s p).1 = false → g'.1 5 = (if (rd_all b (-2, 0, k0, 0) f r s p).2.1.2.1 = 0 then 1 else 2) ∧ (∀ q, q < 3 → g'.1 q = g.1 q) ∧ ∀ q, q < 4 → g'.2 q = g.2 q) := by
  obtain ⟨x0, hx0⟩ : ∃ x0 : rd_X, x0 = (-2, 0, k0, 0) := ⟨_, rfl⟩
  rw [← hx0]
  have hl := I.2.2.1
  obtain ⟨A, hA⟩ : ∃ A, A = rd_all b x0 f r s p := ⟨_, rfl⟩
  rw [← hA]
  have bad : ∀ {g1 : mo_G} {y : rd_X} {rest : (Nat → Int32) × by_B × by_B × pi_P} {o : Option (Prod Int32 mo_G)}, BD g g1 y → A = (false, y, rest) → o = some (0, (upd g1.1 5 (g1.1 9), g1.2)) → ∃ v g', o = some (v, g') ∧ (∀ q, q = 3 → g'.1 q = g.1 q) ∧ g'.2 4 = g.2 4 ∧ g'.1 4 = A.2.1.1 ∧ (A.1 = true → v = nI A.2.1.2.2.1 ∧ g'.1 5 = 0 ∧ RP g' A.2.2.2.2.2 ∧ GP A.2.2.2.2.2 ∧ GL A.2.2.2.2.2) ∧ (A.1 = false → g'.1 5 = (if A.2.1.2.1 = 0 then 1 else 2) ∧ (∀ q, q < 3 → g'.1 q = g.1 q) ∧ ∀ q, q < 4 → g'.2 q = g.2 q) := by
    intro g1 y rest o B e ho
    refine ⟨0, (upd g1.1 5 (g1.1 9), g1.2), ho, fun q hq => ?_, B.1.2 4 (by omega), ?_, ?_, ?_⟩
    · rw [hq]
      exact B.1.1 3 (by omega) (by omega)
    · rw [e]
      exact B.2.1
    · rw [e]
      intro z
      exact Bool.noConfusion z
    · rw [e]
      intro _
      refine ⟨B.2.2, fun q hq => ?_, fun q hq => B.1.2 q (by omega)⟩
      show upd g1.1 5 (g1.1 9) q = _
      rw [ux_n (by omega)]
      exact B.1.1 q (by omega) (by omega)
  unfold r_decode
  obtain ⟨f0, z1, _, z3⟩ := e_d13 (K := fun g2 => (r_readHead g2).bind (fun z3 => (r_linesOf (z3.1 13)).bind (fun z4 => if (z3.1 9) = 0 then (og (¬ z4 = 0) ((r_readOffsets (((((((z3.1 11) + z4)) - 1)) / z4)) z3).bind (fun z20 => j_decode_66 z4 z20))) else (j_decode_66 z4 z3)))) (g := (upd (upd g.1 9 0) 4 (-2), g.2)) 192 0 2000 (g.2 8) (by omega) (by omega)
  have e8 : ((upd (upd g.1 9 0) 4 (-2), g.2).1, mo_uA (upd (upd g.1 9 0) 4 (-2), g.2).2 8 (g.2 8)) = (upd (upd g.1 9 0) 4 (-2), g.2) := by
    refine Prod.ext rfl ?_
    funext i
    show mo_uA g.2 8 (g.2 8) i = g.2 i
    by_cases z : i = 8
    · rw [z, uA_s]
    · exact uA_n z
  rw [e8, nI_0] at z3
  obtain ⟨g1, hg1⟩ : ∃ g1 : mo_G, g1 = ((upd (upd g.1 9 0) 4 (-2), g.2).1, mo_uA (upd (upd g.1 9 0) 4 (-2), g.2).2 8 f0) := ⟨_, rfl⟩
  rw [← hg1] at z3
  rw [z3, rh_hd]
  have h0 : RR g (upd g1.1 8 0, g1.2) x0 := by
    rw [hg1, hx0]
    refine ⟨?_, rfl, rfl, rfl, rfl⟩
    refine ⟨fun i h1 h2 => ?_, fun j hj => uA_n (by omega)⟩
    show upd (upd (upd g.1 9 0) 4 (-2)) 8 0 i = g.1 i
    rw [ux_n (by omega), ux_n (by omega), ux_n (by omega)]
  obtain ⟨g2, a1, a2, a3⟩ := e_head (p := p) h0 I (by rw [hx0]) (by rw [hg1]; exact fun k hk => z1 k (by omega) hk)
  rw [a1, Option.bind_some]
  have hAll := all_HC b x0 f r s p
  rw [← hA] at hAll
  obtain ⟨H, hH⟩ : ∃ H, H = rd_HC b p x0 := ⟨_, rfl⟩
  rw [← hH] at a2 a3 hAll
  have lin : ∀ v : Int32, ∃ w, r_linesOf v = some w ∧ ¬ w = 0 := by
    intro v
    unfold r_linesOf
    split
    · exact ⟨4, rfl, by decide⟩
    · exact ⟨1, rfl, by decide⟩
  by_cases q1 : ¬ H.1 = true
  · have B := a3 (bF q1)
    rw [if_neg q1] at hAll
    obtain ⟨w, w1, _⟩ := lin (g2.1 13)
    refine bad B hAll ?_
    rw [w1, Option.bind_some, if_neg B.pos.2]
    unfold j_decode_66
    refine (B.d68 (N := 1999)).trans ?_
    exact B.j105
  replace q1 := Decidable.not_not.mp q1
  obtain ⟨b1, b2, b3, b4, b5, b6, b7, b8, b9⟩ := a2 q1
  rw [if_pos q1] at hAll
  obtain ⟨k, hk⟩ : ∃ k, k = H.2.1.2.2.1 := ⟨_, rfl⟩
  rw [← hk] at b6 b7
  have h8 := b3.2.1.2
  have hln : rf_ln k = 1 ∧ pi_chs H.2.2 k = H.2.2.2.1 ∨ (rf_ln k = 4 ∧ pi_chs H.2.2 k = (H.2.2.2.1 + 3) / 4) := by
    unfold rf_ln pi_chs
    by_cases q : k < 2
    · rw [if_pos q, if_pos q]; exact Or.inl ⟨rfl, rfl⟩
    · rw [if_neg q, if_neg q]; exact Or.inr ⟨rfl, rfl⟩
  have hch2 : (nI H.2.2.2.1 + nI (rf_ln k) - 1) / nI (rf_ln k) = nI (pi_chs H.2.2 k) := by
    rw [nI_add]
    rcases hln with ⟨a, c⟩ | ⟨a, c⟩
    · rw [a, c, nI_pred, pk_div (by omega) (by omega) (by omega), Nat.div_one]
    · rw [a, c, show H.2.2.2.1 + 4 = (H.2.2.2.1 + 3) + 1 from rfl, nI_pred, pk_div (by omega) (by omega) (by omega)]
  rw [b6, e_lines k b7, Option.bind_some, if_pos b1.2.2.1, og_t (by rcases hln with ⟨a, _⟩ | ⟨a, _⟩ <;> rw [a] <;> decide), b2.2.1, hch2]
  obtain ⟨g3, c1, c2, c3⟩ := e_offs (p := H.2.2) b1 I b9 b3
  rw [← hk] at c1
  rw [c1, Option.bind_some]
  unfold j_decode_66
  obtain ⟨Tb, hT⟩ : ∃ Tb, Tb = rd_tab b H.2.2 H.2.1 := ⟨_, rfl⟩
  rw [← hT] at c2 c3 hAll
  by_cases q2 : ¬ Tb.1 = true
  · have B := c3 (bF q2)
    rw [if_neg q2] at hAll
    refine bad B hAll ?_
    refine (B.d68 (N := 1999)).trans ?_
    exact B.j105
  replace q2 := Decidable.not_not.mp q2
  obtain ⟨d1, d2, d3⟩ := c2 q2
  rw [if_pos q2] at hAll
  have hTk : Tb.2.2.2.1 = k := by rw [hT, hk]; exact (rd_tab_in b9).2
  rw [hTk] at hAll
  have RN3 : RN g3 H.2.2 := d2.RN b2
  have RS3 : RS g3 H.2.2 k := ⟨RN3.1, RN3.2.1, (d2.1 12 (by omega)).trans b5, (d2.1 13 (by omega)).trans b6, RN3.2.2.1⟩
  have ZI0 : ZI H.2.2 0 := by
    intro c y x h1 h2 h3 _
    have e1 := RN3.2.2.2 (64 * c + 8 * y + x) (by omega)
    rw [← e1, d2.2 8 (by omega) (by omega), b2.2.2.2 _ (by omega)]
    exact hd_zero hH q1 (by omega)
  obtain ⟨g4, i1, i2, i3⟩ := e_d68 (K := fun g7 => j_decode_105 g7) I b7 H.2.2.2.1 0 2000 g3 Tb.2 f r s H.2.2 d1 d3 hTk RS3 b3 RN3.2.2.2 ZI0 (fun _ => rfl) (by omega) (by omega) (by omega)
  rw [nI_0] at i1
  rw [i1]
  obtain ⟨C, hC⟩ : ∃ C, C = rd_lc b H.2.2.2.1 (rf_ln k) H.2.2.2.1 0 Tb.2 f r s H.2.2 := ⟨_, rfl⟩
  rw [← hC] at i2 i3 hAll
  unfold rd_fin at hAll
  by_cases q3 : ¬ C.1 = true
  · have B := i3 (bF q3)
    rw [if_neg q3] at hAll
    have hAll2 : A = (false, C.2) := by rw [hAll]; exact Prod.ext (bF q3) rfl
    exact bad B hAll2 B.j105
  replace q3 := Decidable.not_not.mp q3
  rw [if_pos q3] at hAll
  obtain ⟨j1, j2, j3, j4, j5, j6⟩ := i2 q3
  unfold j_decode_105
  rw [if_pos j1.2.2.1, j1.2.2.2.1, (I.fd j1.1).1]
  by_cases q4 : ¬ C.2.1.2.2.2 = b.1
  · rw [if_neg q4] at hAll
    rw [if_neg (nI_ge (by omega) (by omega)), j1.wrong, Option.bind_some]
    have B := j1.bad (nI C.2.1.2.2.2)
    refine bad B hAll ?_
    unfold j_decode_132
    rw [if_neg B.pos.1]
  replace q4 := Decidable.not_not.mp q4
  rw [if_pos q4] at hAll
  rw [if_pos (nI_le (by omega) (by omega))]
  unfold j_decode_132
  rw [if_pos (by rw [j1.2.2.1]; decide)]
  obtain ⟨P, hP⟩ : ∃ P, P = C.2.2.2.2.2 := ⟨_, rfl⟩
  rw [← hP] at j2 j3 j4
  have GPP := pi_sm_GP j4 b3
  have GLP := pi_sm_GL j4 b4
  obtain ⟨g5, k1, k2, k3, k4, _⟩ := e_d175 (K := fun g14 => l_decode_227 (fun g17 => some ((g17.1 13), g17)) 2000 0 g14) (n := P.2.2.1) GPP.2.2.1 P.2.2.1 0 2000 (upd (upd (upd (upd g4.1 5 (g4.1 9)) 0 (g4.1 10)) 1 (g4.1 11)) 2 (g4.1 12), g4.2) j2.2.2.1 (by omega) (by have := GPP.2.2.1; omega)
  rw [nI_0] at k1
  rw [k1]
  obtain ⟨g6, l1, l2, l3, l4, _⟩ := e_d227 (K := fun g17 => some ((g17.1 13), g17)) 192 0 2000 g5 (by omega) (by omega)
  rw [nI_0] at l1
  rw [l1]
  have v6 : g6.1 = (upd (upd (upd (upd g4.1 5 (g4.1 9)) 0 (g4.1 10)) 1 (g4.1 11)) 2 (g4.1 12)) := l2.trans k2
  refine ⟨_, g6, rfl, fun q hq => ?_, ?_, ?_, fun _ => ⟨?_, ?_, ?_, ?_, ?_⟩, fun z => ?_⟩
  · rw [hq, v6]
    exact j1.1.1 3 (by omega) (by omega)
  · rw [l3 4 (by omega), k3 4 (by omega)]
    exact j1.1.2 4 (by omega)
  · rw [v6, hAll]
    exact j1.2.1
  · rw [v6, hAll, j6]
    exact j2.2.2.2.1
  · rw [v6]
    exact j1.2.2.1
  · rw [hAll, ← hP]
    refine ⟨by rw [v6]; exact j2.1, by rw [v6]; exact j2.2.1, by rw [v6]; exact j2.2.2.1, fun c hc => ?_, fun q hq => ?_⟩
    · rw [l3 0 (by omega), l3 1 (by omega), l3 2 (by omega)]
      obtain ⟨m1, m2, m3⟩ := k4 c (Nat.zero_le _) hc
      obtain ⟨n1, n2, n3⟩ := j2.2.2.2.2 c hc
      exact ⟨m1.trans n1, m2.trans n2, m3.trans n3⟩
    · rw [l4 q (Nat.zero_le _) hq, k3 8 (by omega)]
      exact j3 q hq
  · rw [hAll, ← hP]
    exact GPP
  · rw [hAll, ← hP]
    exact GLP
  · rw [hAll, q3] at z
    exact Bool.noConfusion z
