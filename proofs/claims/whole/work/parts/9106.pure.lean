set_option maxRecDepth 10000 in
set_option maxHeartbeats 2000000 in
theorem e_in1 (u v : Int32) (g : mo_G) : r_into u v 1 g = some (wv_m u v, g) := by
  unfold r_into j_into_38 wv_m
  have e : ¬ (1 : Int32) = 0 := by decide
  simp only [e, if_false]
  split <;> rfl
set_option maxRecDepth 10000 in
set_option maxHeartbeats 2000000 in
theorem e_in0 (u v : Int32) (g : mo_G) : r_into u v 0 g = some (wv_w u v, g) := by
  unfold r_into j_into_38 wv_w
  rw [if_pos rfl, if_pos rfl]
  split <;> rfl
set_option maxRecDepth 10000 in
set_option maxHeartbeats 2000000 in
theorem e_out1 (m d : Int32) : r_outOf m d 1 = some (wv_f m d) := by
  unfold r_outOf
  rw [if_neg (by decide)]
  rfl
set_option maxRecDepth 10000 in
set_option maxHeartbeats 2000000 in
theorem e_out0 (m d : Int32) : r_outOf m d 0 = some (wv_s m d) := by
  unfold r_outOf
  rw [if_pos rfl]
  rfl
def mo_tb (g : mo_G) (f : Nat → Int32) : mo_G := (g.1, mo_uA g.2 11 f)
set_option maxRecDepth 10000 in
set_option maxHeartbeats 2000000 in
theorem mo_tbb {g : mo_G} {f k : Nat → Int32} : mo_tb (mo_tb g f) k = mo_tb g k := by
  unfold mo_tb
  simp only [uA]
def T_eq (nx ny : Nat) (f f' : Nat → Int32) : Prop := ∀ y, y < ny → ∀ x, x < nx → f' (8 * y + x) = f (8 * y + x)
def w4 (f : Nat → Int32) (q p : Nat) (a b c d : Int32) : Nat → Int32 := upd (upd (upd (upd f q a) (q + 8 * p) b) (q + p) c) (q + 8 * p + p) d
set_option maxRecDepth 10000 in
set_option maxHeartbeats 2000000 in
theorem wv_blk_w4 (f : Nat → Int32) (q p : Nat) (hp : 0 < p) : wv_blk f q p = w4 f q p (wv_m (wv_m (f q) (f (q + p))) (wv_m (f (q + 8 * p)) (f (q + 8 * p + p)))) (wv_w (wv_m (f q) (f (q + p))) (wv_m (f (q + 8 * p)) (f (q + 8 * p + p)))) (wv_m (wv_w (f q) (f (q + p))) (wv_w (f (q + 8 * p)) (f (q + 8 * p + p)))) (wv_w (wv_w (f q) (f (q + p))) (wv_w (f (q + 8 * p)) (f (q + 8 * p + p)))) := by
  have a1 : ¬ q = q + p := by omega
  have a2 : ¬ q = q + 8 * p := by omega
  have a3 : ¬ q = q + 8 * p + p := by omega
  have a4 : ¬ q + p = q + 8 * p := by omega
  have a5 : ¬ q + p = q + 8 * p + p := by omega
  have a6 : ¬ q + 8 * p = q + 8 * p + p := by omega
  have b1 : ¬ q + p = q := by omega
  have b2 : ¬ q + 8 * p = q := by omega
  have b3 : ¬ q + 8 * p + p = q := by omega
  have b4 : ¬ q + 8 * p = q + p := by omega
  have b5 : ¬ q + 8 * p + p = q + p := by omega
  have b6 : ¬ q + 8 * p + p = q + 8 * p := by omega
  unfold wv_blk w4 wv_mix
  funext i
  simp only [ux_s, ux_n a1, ux_n a2, ux_n a3, ux_n a4, ux_n a5, ux_n a6, ux_n b1, ux_n b2, ux_n b3, ux_n b4, ux_n b5, ux_n b6]
  unfold upd
  by_cases z1 : i = q + 8 * p + p
  · simp only [if_pos z1]
  · simp only [if_neg z1]
    by_cases z2 : i = q + p
    · simp only [if_pos z2]
    · simp only [if_neg z2]
      by_cases z3 : i = q + 8 * p
      · simp only [if_pos z3]
      · simp only [if_neg z3]
        by_cases z4 : i = q
        · simp only [if_pos z4]
        · simp only [if_neg z4]
def v4 (f : Nat → Int32) (q p : Nat) (a b c d : Int32) : Nat → Int32 := upd (upd (upd (upd f q a) (q + p) b) (q + 8 * p) c) (q + 8 * p + p) d
set_option maxRecDepth 10000 in
set_option maxHeartbeats 2000000 in
theorem wv_ubk_v4 (f : Nat → Int32) (q p : Nat) (hp : 0 < p) : wv_ubk f q p = v4 f q p (wv_f (wv_f (f q) (f (q + 8 * p))) (wv_f (f (q + p)) (f (q + 8 * p + p)))) (wv_s (wv_f (f q) (f (q + 8 * p))) (wv_f (f (q + p)) (f (q + 8 * p + p)))) (wv_f (wv_s (f q) (f (q + 8 * p))) (wv_s (f (q + p)) (f (q + 8 * p + p)))) (wv_s (wv_s (f q) (f (q + 8 * p))) (wv_s (f (q + p)) (f (q + 8 * p + p)))) := by
  have a1 : ¬ q = q + p := by omega
  have a2 : ¬ q = q + 8 * p := by omega
  have a3 : ¬ q = q + 8 * p + p := by omega
  have a4 : ¬ q + p = q + 8 * p := by omega
  have a5 : ¬ q + p = q + 8 * p + p := by omega
  have a6 : ¬ q + 8 * p = q + 8 * p + p := by omega
  have b1 : ¬ q + p = q := by omega
  have b2 : ¬ q + 8 * p = q := by omega
  have b3 : ¬ q + 8 * p + p = q := by omega
  have b4 : ¬ q + 8 * p = q + p := by omega
  have b5 : ¬ q + 8 * p + p = q + p := by omega
  have b6 : ¬ q + 8 * p + p = q + 8 * p := by omega
  unfold wv_ubk v4 wv_unm
  funext i
  simp only [ux_s, ux_n a1, ux_n a2, ux_n a3, ux_n a4, ux_n a5, ux_n a6, ux_n b1, ux_n b2, ux_n b3, ux_n b4, ux_n b5, ux_n b6]
  unfold upd
  by_cases z1 : i = q + 8 * p + p
  · simp only [if_pos z1]
  · simp only [if_neg z1]
    by_cases z2 : i = q + 8 * p
    · simp only [if_pos z2]
    · simp only [if_neg z2]
      by_cases z3 : i = q + p
      · simp only [if_pos z3]
      · simp only [if_neg z3]
        by_cases z4 : i = q
        · simp only [if_pos z4]
        · simp only [if_neg z4]
set_option maxRecDepth 10000 in
set_option maxHeartbeats 2000000 in
theorem T_eq.upd {nx ny k : Nat} {f f' : Nat → Int32} {a : Int32} (h : T_eq nx ny f f') : T_eq nx ny (upd f k a) (upd f' k a) := by
  intro y hy x hx
  by_cases q : 8 * y + x = k
  · rw [q, ux_s, ux_s]
  · rw [ux_n q, ux_n q]
    exact h y hy x hx
set_option maxRecDepth 10000 in
set_option maxHeartbeats 2000000 in
theorem ix2 (y x : Nat) : 8 * nI y + nI x = nI (8 * y + x) := by
  rw [show (8 : Int32) = nI 8 from rfl, pk_mul, nI_add]
set_option maxRecDepth 10000 in
set_option maxHeartbeats 2000000 in
theorem ix8 (q p : Nat) : nI q + 8 * nI p = nI (q + 8 * p) := by
  rw [show (8 : Int32) = nI 8 from rfl, pk_mul, nI_add]
set_option maxRecDepth 10000 in
set_option maxHeartbeats 2000000 in
theorem ix22 (x p : Nat) : nI x + 2 * nI p = nI (x + 2 * p) := by
  rw [show (2 : Int32) = nI 2 from rfl, pk_mul, nI_add]
set_option maxRecDepth 10000 in
set_option maxHeartbeats 2000000 in
theorem T4 {nx ny x y p : Nat} {f f' : Nat → Int32} (h : T_eq nx ny f f') (hx : x + p < nx) (hy : y + p < ny) : f' (8 * y + x) = f (8 * y + x) ∧ f' (8 * y + x + p) = f (8 * y + x + p) ∧ f' (8 * y + x + 8 * p) = f (8 * y + x + 8 * p) ∧ f' (8 * y + x + 8 * p + p) = f (8 * y + x + 8 * p + p) := by
  refine ⟨h y (by omega) x (by omega), ?_, ?_, ?_⟩
  · have := h y (by omega) (x + p) (by omega)
    rw [← Nat.add_assoc] at this
    exact this
  · have := h (y + p) (by omega) x (by omega)
    rw [show 8 * (y + p) + x = 8 * y + x + 8 * p by omega] at this
    exact this
  · have := h (y + p) (by omega) (x + p) (by omega)
    rw [show 8 * (y + p) + (x + p) = 8 * y + x + 8 * p + p by omega] at this
    exact this
set_option maxRecDepth 10000 in
set_option maxHeartbeats 2000000 in
theorem e_w14 {K : Int32 → Int32 → Int32 → Int32 → mo_G → Option mo_G} {g : mo_G} {nx ny p y : Nat} (hx8 : nx ≤ 8) (hy8 : ny ≤ 8) (hp : 0 < p) (hp8 : p ≤ 8) (hy : y + p < ny) : ∀ (n x N : Nat) (f f' : Nat → Int32), T_eq nx ny f f' → nx ≤ n + x → x ≤ 40 → n < N → ∃ f1, l_wave_14 K N (nI nx) (nI ny) (nI p) (nI y) (nI x) (mo_tb g f') = K (nI nx) (nI ny) (nI p) (nI y) (mo_tb g f1) ∧ T_eq nx ny (wv_x wv_blk nx p y n x f) f1 := by
  intro n
  induction n with
  | zero =>
    intro x N f f' hT hn hx40 hN
    obtain ⟨N, rfl⟩ : ∃ m, N = m + 1 := ⟨N - 1, by omega⟩
    refine ⟨f', ?_, hT⟩
    rw [l_wave_14, nI_add, if_pos (nI_le (by omega) (by omega))]
  | succ n ih =>
    intro x N f f' hT hn hx40 hN
    obtain ⟨N, rfl⟩ : ∃ m, N = m + 1 := ⟨N - 1, by omega⟩
    unfold wv_x
    rw [l_wave_14, nI_add]
    by_cases q : x + p < nx
    · rw [if_neg (nI_ge q (by omega)), if_pos q]
      obtain ⟨t1, t2, t3, t4⟩ := T4 hT q hy
      have g1 := vp_in_nI (n := 8 * y + x) (N := 64) (by omega) (by decide)
      have g2 := vp_in_nI (n := 8 * y + x + p) (N := 64) (by omega) (by decide)
      have g3 := vp_in_nI (n := 8 * y + x + 8 * p) (N := 64) (by omega) (by decide)
      have g4 := vp_in_nI (n := 8 * y + x + 8 * p + p) (N := 64) (by omega) (by decide)
      have c1 := nI_clamp (n := 8 * y + x) (by omega)
      have c2 := nI_clamp (n := 8 * y + x + p) (by omega)
      have c3 := nI_clamp (n := 8 * y + x + 8 * p) (by omega)
      have c4 := nI_clamp (n := 8 * y + x + 8 * p + p) (by omega)
      have e11 : ∀ f, (mo_tb g f).2 11 = f := fun f => rfl
      simp only [ix2, ix8, nI_add, og_t g1, og_t g2, og_t g3, og_t g4, c1, c2, c3, c4, e_in1, e_in0, Option.bind_some, e11, uA, uA_s, t1, t2, t3, t4, ix22]
      rw [wv_blk_w4 f _ p hp]
      obtain ⟨f1, h1, h2⟩ := ih (x + 2 * p) N _ _ (((hT.upd (k := 8 * y + x) (a := (wv_m (wv_m (f (8 * y + x)) (f (8 * y + x + p))) (wv_m (f (8 * y + x + 8 * p)) (f (8 * y + x + 8 * p + p)))))).upd (k := 8 * y + x + 8 * p) (a := wv_w (wv_m (f (8 * y + x)) (f (8 * y + x + p))) (wv_m (f (8 * y + x + 8 * p)) (f (8 * y + x + 8 * p + p))))).upd (k := 8 * y + x + p) (a := wv_m (wv_w (f (8 * y + x)) (f (8 * y + x + p))) (wv_w (f (8 * y + x + 8 * p)) (f (8 * y + x + 8 * p + p)))) |>.upd (k := 8 * y + x + 8 * p + p) (a := wv_w (wv_w (f (8 * y + x)) (f (8 * y + x + p))) (wv_w (f (8 * y + x + 8 * p)) (f (8 * y + x + 8 * p + p))))) (by omega) (by omega) (by omega)
      refine ⟨f1, ?_, h2⟩
      refine Eq.trans ?_ h1
      unfold mo_tb
      simp only [uA]
    · rw [if_pos (nI_le (by omega) (by omega)), if_neg q]
      exact ⟨f', rfl, hT⟩
set_option maxRecDepth 10000 in
set_option maxHeartbeats 2000000 in
theorem e_u14 {K : Int32 → Int32 → Int32 → Int32 → mo_G → Option mo_G} {g : mo_G} {nx ny p y : Nat} (hx8 : nx ≤ 8) (hy8 : ny ≤ 8) (hp : 0 < p) (hp8 : p ≤ 8) (hy : y + p < ny) : ∀ (n x N : Nat) (f f' : Nat → Int32), T_eq nx ny f f' → nx ≤ n + x → x ≤ 40 → n < N → ∃ f1, l_unwave_14 K N (nI nx) (nI ny) (nI p) (nI y) (nI x) (mo_tb g f') = K (nI nx) (nI ny) (nI p) (nI y) (mo_tb g f1) ∧ T_eq nx ny (wv_x wv_ubk nx p y n x f) f1 := by
  intro n
  induction n with
  | zero =>
    intro x N f f' hT hn hx40 hN
    obtain ⟨N, rfl⟩ : ∃ m, N = m + 1 := ⟨N - 1, by omega⟩
    refine ⟨f', ?_, hT⟩
    rw [l_unwave_14, nI_add, if_pos (nI_le (by omega) (by omega))]
  | succ n ih =>
    intro x N f f' hT hn hx40 hN
    obtain ⟨N, rfl⟩ : ∃ m, N = m + 1 := ⟨N - 1, by omega⟩
    unfold wv_x
    rw [l_unwave_14, nI_add]
    by_cases q : x + p < nx
    · rw [if_neg (nI_ge q (by omega)), if_pos q]
      obtain ⟨t1, t2, t3, t4⟩ := T4 hT q hy
      have g1 := vp_in_nI (n := 8 * y + x) (N := 64) (by omega) (by decide)
      have g2 := vp_in_nI (n := 8 * y + x + p) (N := 64) (by omega) (by decide)
      have g3 := vp_in_nI (n := 8 * y + x + 8 * p) (N := 64) (by omega) (by decide)
      have g4 := vp_in_nI (n := 8 * y + x + 8 * p + p) (N := 64) (by omega) (by decide)
      have c1 := nI_clamp (n := 8 * y + x) (by omega)
      have c2 := nI_clamp (n := 8 * y + x + p) (by omega)
      have c3 := nI_clamp (n := 8 * y + x + 8 * p) (by omega)
      have c4 := nI_clamp (n := 8 * y + x + 8 * p + p) (by omega)
      have e11 : ∀ f, (mo_tb g f).2 11 = f := fun f => rfl
      simp only [ix2, ix8, nI_add, og_t g1, og_t g2, og_t g3, og_t g4, c1, c2, c3, c4, e_out1, e_out0, Option.bind_some, e11, uA, uA_s, t1, t2, t3, t4, ix22]
      rw [wv_ubk_v4 f _ p hp]
      obtain ⟨f1, h1, h2⟩ := ih (x + 2 * p) N _ _ ((((hT.upd (k := 8 * y + x) (a := wv_f (wv_f (f (8 * y + x)) (f (8 * y + x + 8 * p))) (wv_f (f (8 * y + x + p)) (f (8 * y + x + 8 * p + p))))).upd (k := 8 * y + x + p) (a := wv_s (wv_f (f (8 * y + x)) (f (8 * y + x + 8 * p))) (wv_f (f (8 * y + x + p)) (f (8 * y + x + 8 * p + p))))).upd (k := 8 * y + x + 8 * p) (a := wv_f (wv_s (f (8 * y + x)) (f (8 * y + x + 8 * p))) (wv_s (f (8 * y + x + p)) (f (8 * y + x + 8 * p + p))))).upd (k := 8 * y + x + 8 * p + p) (a := wv_s (wv_s (f (8 * y + x)) (f (8 * y + x + 8 * p))) (wv_s (f (8 * y + x + p)) (f (8 * y + x + 8 * p + p))))) (by omega) (by omega) (by omega)
      refine ⟨f1, ?_, h2⟩
      refine Eq.trans ?_ h1
      unfold mo_tb
      simp only [uA]
    · rw [if_pos (nI_le (by omega) (by omega)), if_neg q]
      exact ⟨f', rfl, hT⟩
set_option maxRecDepth 10000 in
set_option maxHeartbeats 2000000 in
theorem e_w3 {K : mo_G → Option mo_G} {g : mo_G} {nx ny p : Nat} (hx8 : nx ≤ 8) (hy8 : ny ≤ 8) (hp : 0 < p) (hp8 : p ≤ 8) : ∀ (n y N : Nat) (f f' : Nat → Int32), T_eq nx ny f f' → ny ≤ n + y → y ≤ 40 → n < N → ∃ f1, l_wave_3 K N (nI nx) (nI ny) (nI p) (nI y) (mo_tb g f') = K (mo_tb g f1) ∧ T_eq nx ny (wv_y wv_blk nx ny p n y f) f1 := by
  intro n
  induction n with
  | zero =>
    intro x N f f' hT hn hx40 hN
    obtain ⟨N, rfl⟩ : ∃ m, N = m + 1 := ⟨N - 1, by omega⟩
    refine ⟨f', ?_, hT⟩
    rw [l_wave_3, nI_add, if_pos (nI_le (by omega) (by omega))]
  | succ n ih =>
    intro y N f f' hT hn hx40 hN
    obtain ⟨N, rfl⟩ : ∃ m, N = m + 1 := ⟨N - 1, by omega⟩
    unfold wv_y
    rw [l_wave_3, nI_add]
    by_cases q : y + p < ny
    · rw [if_neg (nI_ge q (by omega)), if_pos q]
      obtain ⟨f1, h1, h2⟩ := e_w14 (K := fun y22 y23 y24 y25 g21 => (fun x1 x2 x3 x4 g => l_wave_3 K N x1 x2 x3 x4 g) y22 y23 y24 ((y25 + (2 * y24))) g21) (g := g) hx8 hy8 hp hp8 q nx 0 2000 f f' hT (by omega) (by omega) (by omega)
      obtain ⟨f2, h3, h4⟩ := ih (y + 2 * p) N _ f1 h2 (by omega) (by omega) (by omega)
      refine ⟨f2, ?_, h4⟩
      rw [nI_0] at h1
      refine h1.trans ?_
      rw [← h3, ← ix22]
    · rw [if_pos (nI_le (by omega) (by omega)), if_neg q]
      exact ⟨f', rfl, hT⟩
set_option maxRecDepth 10000 in
set_option maxHeartbeats 2000000 in
theorem e_u3 {K : mo_G → Option mo_G} {g : mo_G} {nx ny p : Nat} (hx8 : nx ≤ 8) (hy8 : ny ≤ 8) (hp : 0 < p) (hp8 : p ≤ 8) : ∀ (n y N : Nat) (f f' : Nat → Int32), T_eq nx ny f f' → ny ≤ n + y → y ≤ 40 → n < N → ∃ f1, l_unwave_3 K N (nI nx) (nI ny) (nI p) (nI y) (mo_tb g f') = K (mo_tb g f1) ∧ T_eq nx ny (wv_y wv_ubk nx ny p n y f) f1 := by
  intro n
  induction n with
  | zero =>
    intro x N f f' hT hn hx40 hN
    obtain ⟨N, rfl⟩ : ∃ m, N = m + 1 := ⟨N - 1, by omega⟩
    refine ⟨f', ?_, hT⟩
    rw [l_unwave_3, nI_add, if_pos (nI_le (by omega) (by omega))]
  | succ n ih =>
    intro y N f f' hT hn hx40 hN
    obtain ⟨N, rfl⟩ : ∃ m, N = m + 1 := ⟨N - 1, by omega⟩
    unfold wv_y
    rw [l_unwave_3, nI_add]
    by_cases q : y + p < ny
    · rw [if_neg (nI_ge q (by omega)), if_pos q]
      obtain ⟨f1, h1, h2⟩ := e_u14 (K := fun y22 y23 y24 y25 g21 => (fun x1 x2 x3 x4 g => l_unwave_3 K N x1 x2 x3 x4 g) y22 y23 y24 ((y25 + (2 * y24))) g21) (g := g) hx8 hy8 hp hp8 q nx 0 2000 f f' hT (by omega) (by omega) (by omega)
      obtain ⟨f2, h3, h4⟩ := ih (y + 2 * p) N _ f1 h2 (by omega) (by omega) (by omega)
      refine ⟨f2, ?_, h4⟩
      rw [nI_0] at h1
      refine h1.trans ?_
      rw [← h3, ← ix22]
    · rw [if_pos (nI_le (by omega) (by omega)), if_neg q]
      exact ⟨f', rfl, hT⟩
set_option maxRecDepth 10000 in
set_option maxHeartbeats 2000000 in
theorem e_wave {g : mo_G} {nx ny p : Nat} {f f' : Nat → Int32} (hx8 : nx ≤ 8) (hy8 : ny ≤ 8) (hp : 0 < p) (hp8 : p ≤ 8) (hT : T_eq nx ny f f') : ∃ f1, r_wave (nI nx) (nI ny) (nI p) (mo_tb g f') = some (mo_tb g f1) ∧ T_eq nx ny (wv_y wv_blk nx ny p ny 0 f) f1 :=
  e_w3 (K := fun g => some g) hx8 hy8 hp hp8 ny 0 2000 f f' hT (by omega) (by omega) (by omega)
set_option maxRecDepth 10000 in
set_option maxHeartbeats 2000000 in
theorem e_unwave {g : mo_G} {nx ny p : Nat} {f f' : Nat → Int32} (hx8 : nx ≤ 8) (hy8 : ny ≤ 8) (hp : 0 < p) (hp8 : p ≤ 8) (hT : T_eq nx ny f f') : ∃ f1, r_unwave (nI nx) (nI ny) (nI p) (mo_tb g f') = some (mo_tb g f1) ∧ T_eq nx ny (wv_y wv_ubk nx ny p ny 0 f) f1 :=
  e_u3 (K := fun g => some g) hx8 hy8 hp hp8 ny 0 2000 f f' hT (by omega) (by omega) (by omega)
