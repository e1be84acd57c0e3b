def AG (nx row i : Nat) (t t' : Nat → Int32) : Prop := ∀ r x, x < nx → (r < row ∨ r = row ∧ x < i) → t' (8 * r + x) = t (8 * r + x)
set_option maxRecDepth 10000 in
set_option maxHeartbeats 2000000 in
theorem e_u79 {K : Int32 → Int32 → Int32 → Int32 → Int32 → Int32 → Int32 → mo_G → Option mo_G} {g : mo_G} {r0 : by_B} (he : by_eq r0 (g.2 9)) (ok : by_ok r0) (h384 : r0.1 ≤ 384) {nx row : Nat} {a1 a2 a3 a5 a6 : Int32} {f : Nat → Int32} (hx8 : nx ≤ 8) (hr : row < 8) : ∀ (j i N cu : Nat) (t t' : Nat → Int32), AG nx row i t t' → i + j = nx → cu + 2 * j ≤ r0.1 → j < N → ∃ t1, AG nx row nx (tf_x row j i (t, (r0.1, cu, r0.2.2))).1 t1 ∧ (tf_x row j i (t, (r0.1, cu, r0.2.2))).2 = (r0.1, cu + 2 * j, r0.2.2) ∧ l_unwaves_79 K N a1 a2 a3 (nI nx) a5 a6 (nI row) (nI i) (mo_sc (mo_tb g t') cu f) = K a1 a2 a3 (nI nx) a5 a6 (nI row) (mo_sc (mo_tb g t1) (cu + 2 * j) f) := by
  intro j
  induction j with
  | zero =>
    intro i N cu t t' hA hi hcu hN
    obtain ⟨N, rfl⟩ : ∃ m, N = m + 1 := ⟨N - 1, by omega⟩
    refine ⟨t', ?_, rfl, ?_⟩
    · rw [show i = nx by omega] at hA
      exact hA
    · rw [l_unwaves_79, if_pos (nI_le (by omega) (by omega))]
      rfl
  | succ j ih =>
    intro i N cu t t' hA hi hcu hN
    obtain ⟨N, rfl⟩ : ∃ m, N = m + 1 := ⟨N - 1, by omega⟩
    have tk := e_take (g := mo_tb g t') (r := (r0.1, cu, r0.2.2)) (k := 2) (f := f) he (by omega) (by show cu + 2 ≤ r0.1; omega) h384
    have nx2 := by_next_ge (r := (r0.1, cu, r0.2.2)) 2 0 0 (by show cu + 2 ≤ r0.1; omega)
    have sm := next_small (r := (r0.1, cu, r0.2.2)) ok (Or.inl rfl) (show cu + 2 ≤ r0.1 by omega)
    rw [if_pos rfl] at sm
    obtain ⟨v, hv⟩ : ∃ v, v = (by_next 2 0 (r0.1, cu, r0.2.2) 0).1 := ⟨_, rfl⟩
    rw [← hv] at sm tk
    have hA2 : AG nx row (i + 1) (upd t (8 * row + i) (v &&& 65535)) (upd t' (8 * row + i) v) := by
      intro r x h1 h2
      by_cases q : 8 * r + x = 8 * row + i
      · rw [q, ux_s, ux_s, sm]
      · rw [ux_n q, ux_n q]
        exact hA r x h1 (by omega)
    obtain ⟨t1, h1, h2, h3⟩ := ih (i + 1) N (cu + 2) _ _ hA2 (by omega) (by omega) (by omega)
    have et : tf_x row (j + 1) i (t, (r0.1, cu, r0.2.2)) = tf_x row j (i + 1) (upd t (8 * row + i) (v &&& 65535), (r0.1, cu + 2, r0.2.2)) := by
      show tf_x row j (i + 1) (upd t (8 * row + i) ((by_next 2 0 (r0.1, cu, r0.2.2) 0).1 &&& 65535), (by_next 2 0 (r0.1, cu, r0.2.2) 0).2) = _
      rw [nx2, ← hv]
    rw [et]
    refine ⟨t1, h1, by rw [h2, show cu + 2 + 2 * j = cu + 2 * (j + 1) by omega], ?_⟩
    rw [l_unwaves_79, if_neg (nI_ge (by omega) (by omega)), show (2 : Int32) = nI 2 from rfl]
    rw [tk, Option.bind_some, ix2, og_t (vp_in_nI (by omega) (by decide)), nI_clamp (by omega), nI_1]
    rw [show cu + 2 * (j + 1) = cu + 2 + 2 * j by omega, ← h3]
    show l_unwaves_79 K N _ _ _ _ _ _ _ _ (upd g.1 14 (nI (cu + 2)), mo_uA (mo_uA (mo_uA g.2 11 t') 8 f) 11 (upd t' (8 * row + i) v)) = l_unwaves_79 K N _ _ _ _ _ _ _ _ (upd g.1 14 (nI (cu + 2)), mo_uA (mo_uA g.2 11 (upd t' (8 * row + i) v)) 8 f)
    have eA : mo_uA (mo_uA (mo_uA g.2 11 t') 8 f) 11 (upd t' (8 * row + i) v) = mo_uA (mo_uA g.2 11 (upd t' (8 * row + i) v)) 8 f := by
      funext q
      by_cases z : q = 11
      · rw [z, uA_s, uA_n (by omega), uA_s]
      · rw [uA_n z]
        by_cases z2 : q = 8
        · rw [z2, uA_s, uA_s]
        · rw [uA_n z2, uA_n z2, uA_n z, uA_n z]
    rw [eA]
set_option maxRecDepth 10000 in
set_option maxHeartbeats 2000000 in
theorem e_u69 {K : Int32 → Int32 → Int32 → Int32 → Int32 → Int32 → mo_G → Option mo_G} {g : mo_G} {r0 : by_B} (he : by_eq r0 (g.2 9)) (ok : by_ok r0) (h384 : r0.1 ≤ 384) {nx ny : Nat} {a1 a2 a3 a6 : Int32} {f : Nat → Int32} (hx8 : nx ≤ 8) (hy8 : ny ≤ 4) : ∀ (j row N cu : Nat) (t t' : Nat → Int32), AG nx row 0 t t' → row + j = ny → cu + j * (2 * nx) ≤ r0.1 → j < N → ∃ t1, AG nx ny 0 (tf_y nx j row (t, (r0.1, cu, r0.2.2))).1 t1 ∧ (tf_y nx j row (t, (r0.1, cu, r0.2.2))).2 = (r0.1, cu + j * (2 * nx), r0.2.2) ∧ l_unwaves_69 K N a1 a2 a3 (nI nx) (nI ny) a6 (nI row) (mo_sc (mo_tb g t') cu f) = K a1 a2 a3 (nI nx) (nI ny) a6 (mo_sc (mo_tb g t1) (cu + j * (2 * nx)) f) := by
  intro j
  induction j with
  | zero =>
    intro row N cu t t' hA hi hcu hN
    obtain ⟨N, rfl⟩ : ∃ m, N = m + 1 := ⟨N - 1, by omega⟩
    refine ⟨t', ?_, by rw [Nat.zero_mul]; rfl, ?_⟩
    · rw [show row = ny by omega] at hA
      exact hA
    · rw [l_unwaves_69, if_pos (nI_le (by omega) (by omega)), Nat.zero_mul]
      rfl
  | succ j ih =>
    intro row N cu t t' hA hi hcu hN
    obtain ⟨N, rfl⟩ : ∃ m, N = m + 1 := ⟨N - 1, by omega⟩
    rw [Nat.add_mul, Nat.one_mul] at hcu ⊢
    obtain ⟨t1, h1, h2, h3⟩ := e_u79 (K := fun y9 y10 y11 y12 y13 y14 y15 g8 => (fun x1 x2 x3 x4 x5 x6 x7 g => l_unwaves_69 K N x1 x2 x3 x4 x5 x6 x7 g) y9 y10 y11 y12 y13 y14 (y15 + 1) g8) he ok h384 (a1 := a1) (a2 := a2) (a3 := a3) (a5 := nI ny) (a6 := a6) (f := f) hx8 (row := row) (by omega) nx 0 2000 cu t t' hA (by omega) (by omega) (by omega)
    obtain ⟨t2, h4, h5, h6⟩ := ih (row + 1) N (cu + 2 * nx) (tf_x row nx 0 (t, (r0.1, cu, r0.2.2))).1 t1 (fun r x hx hr => h1 r x hx (by omega)) (by omega) (by omega) (by omega)
    have et : tf_y nx (j + 1) row (t, (r0.1, cu, r0.2.2)) = tf_y nx j (row + 1) ((tf_x row nx 0 (t, (r0.1, cu, r0.2.2))).1, (r0.1, cu + 2 * nx, r0.2.2)) := by
      show tf_y nx j (row + 1) (tf_x row nx 0 (t, (r0.1, cu, r0.2.2))) = _
      rw [← h2]
    rw [et]
    refine ⟨t2, h4, by rw [h5, show cu + 2 * nx + j * (2 * nx) = cu + (j * (2 * nx) + 2 * nx) by omega], ?_⟩
    rw [l_unwaves_69, if_neg (nI_ge (by omega) (by omega))]
    rw [nI_0] at h3
    refine h3.trans ?_
    rw [show cu + (j * (2 * nx) + 2 * nx) = cu + 2 * nx + j * (2 * nx) by omega, ← h6]
    show l_unwaves_69 K N _ _ _ _ _ _ (nI row + 1) _ = _
    rw [nI_1]
set_option maxRecDepth 10000 in
set_option maxHeartbeats 2000000 in
theorem mo_st_sw {g : mo_G} {t f : Nat → Int32} {cu : Nat} : mo_sc (mo_tb g t) cu f = mo_tb (mo_sc g cu f) t := by
  unfold mo_sc mo_tb
  refine Prod.ext rfl ?_
  funext q
  show mo_uA (mo_uA g.2 11 t) 8 f q = mo_uA (mo_uA g.2 8 f) 11 t q
  by_cases z : q = 11
  · rw [z, uA_s, uA_n (by omega), uA_s]
  · rw [uA_n z]
    by_cases z2 : q = 8
    · rw [z2, uA_s, uA_s]
    · rw [uA_n z2, uA_n z2, uA_n z]
set_option maxRecDepth 10000 in
set_option maxHeartbeats 2000000 in
theorem e_lev {K : Int32 → Int32 → Int32 → Int32 → Int32 → Int32 → mo_G → Option mo_G} {g : mo_G} {nx ny : Nat} {a1 a2 a3 a6 : Int32} (hx8 : nx ≤ 8) (hy4 : ny ≤ 4) {f f' : Nat → Int32} (hT : T_eq nx ny f f') : ∃ f1, T_eq nx ny (wv_bwd nx ny f) f1 ∧ l_unwaves_119 (fun y25 y26 y27 y28 y29 y30 y31 g24 => l_unwaves_142 K 2000 y25 y26 y27 y28 y29 y30 y31 g24) 2000 a1 a2 a3 (nI nx) (nI ny) a6 1 (mo_tb g f') = K a1 a2 a3 (nI nx) (nI ny) a6 (mo_tb g f1) := by
  have hm : wv_min nx ny ≤ 4 := by unfold wv_min; split <;> omega
  have el : r_least (nI nx) (nI ny) = some (nI (wv_min nx ny)) := e_least _ _ (by omega) (by omega)
  have step : ∀ (p N : Nat) (t : Nat → Int32) (P : Int32), P = nI p → 0 < p → p ≤ 4 → l_unwaves_142 K (N + 1) a1 a2 a3 (nI nx) (nI ny) a6 P (mo_tb g t) = if 2 * p ≤ wv_min nx ny then (r_unwave (nI nx) (nI ny) (nI p) (mo_tb g t)).bind (fun z33 => l_unwaves_142 K N a1 a2 a3 (nI nx) (nI ny) a6 (nI (p / 2)) z33) else K a1 a2 a3 (nI nx) (nI ny) a6 (mo_tb g t) := by
    intro p N t P hP h0 h4
    rw [hP, l_unwaves_142, if_neg (nI_nle h0 (by omega)), el, Option.bind_some, show (2 : Int32) = nI 2 from rfl, pk_mul, pk_div (by omega) (by omega) (by omega)]
    by_cases q : 2 * p ≤ wv_min nx ny
    · rw [if_neg (nI_nlt q (by omega)), if_pos q]
    · rw [if_pos (nI_lt (by omega) (by omega)), if_neg q]
  have stop : ∀ (N : Nat) (t : Nat → Int32), l_unwaves_142 K (N + 1) a1 a2 a3 (nI nx) (nI ny) a6 (nI 0) (mo_tb g t) = K a1 a2 a3 (nI nx) (nI ny) a6 (mo_tb g t) := by
    intro N t
    rw [l_unwaves_142, if_pos (by decide)]
  unfold wv_bwd wv_bp
  rw [if_neg (show ¬ 2 * 4 ≤ wv_min nx ny by omega)]
  by_cases q4 : 4 ≤ wv_min nx ny
  · rw [if_pos (show 2 * 2 ≤ wv_min nx ny by omega), if_pos (show 2 * 1 ≤ wv_min nx ny by omega)]
    obtain ⟨f1, a1', b1⟩ := e_unwave (g := g) (p := 2) hx8 (by omega) (by omega) (by omega) hT
    obtain ⟨f2, a2', b2⟩ := e_unwave (g := g) (p := 1) hx8 (by omega) (by omega) (by omega) b1
    refine ⟨f2, b2, ?_⟩
    rw [l_unwaves_119, el, Option.bind_some, if_neg (show ¬ nI (wv_min nx ny) < 4 * 1 from nI_nlt (b := 4) q4 (by omega))]
    show l_unwaves_119 _ 1999 a1 a2 a3 (nI nx) (nI ny) a6 (2 * 1) (mo_tb g f') = _
    rw [l_unwaves_119, el, Option.bind_some, if_pos (show nI (wv_min nx ny) < 4 * (2 * 1) from nI_lt (b := 8) (by omega) (by omega))]
    refine (step 2 1999 f' (2 * 1) rfl (by omega) (by omega)).trans ?_
    rw [if_pos (by omega), a1', Option.bind_some]
    refine (step 1 1998 f1 (nI (2 / 2)) rfl (by omega) (by omega)).trans ?_
    rw [if_pos (by omega), a2', Option.bind_some]
    exact stop 1997 _
  · rw [if_neg (show ¬ 2 * 2 ≤ wv_min nx ny by omega)]
    have h119 : ∀ t : Nat → Int32, l_unwaves_119 (fun y25 y26 y27 y28 y29 y30 y31 g24 => l_unwaves_142 K 2000 y25 y26 y27 y28 y29 y30 y31 g24) 2000 a1 a2 a3 (nI nx) (nI ny) a6 1 (mo_tb g t) = l_unwaves_142 K 2000 a1 a2 a3 (nI nx) (nI ny) a6 1 (mo_tb g t) := by
      intro t
      rw [l_unwaves_119, el, Option.bind_some, if_pos (show nI (wv_min nx ny) < 4 * 1 from nI_lt (b := 4) (by omega) (by omega))]
    rw [h119]
    by_cases q2 : 2 ≤ wv_min nx ny
    · rw [if_pos (show 2 * 1 ≤ wv_min nx ny by omega)]
      obtain ⟨f2, a2', b2⟩ := e_unwave (g := g) (p := 1) hx8 (by omega) (by omega) (by omega) hT
      refine ⟨f2, b2, ?_⟩
      refine (step 1 1999 f' 1 rfl (by omega) (by omega)).trans ?_
      rw [if_pos (by omega), a2', Option.bind_some]
      exact stop 1998 _
    · rw [if_neg (show ¬ 2 * 1 ≤ wv_min nx ny by omega)]
      refine ⟨f', hT, ?_⟩
      refine (step 1 1999 f' 1 rfl (by omega) (by omega)).trans ?_
      rw [if_neg (by omega)]
