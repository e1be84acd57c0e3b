set_option maxRecDepth 10000 in
set_option maxHeartbeats 2000000 in
theorem tn_and (x : Int32) {m : Int32} (k : Nat) (hm : m.toBitVec.toNat = 2 ^ k - 1) (hk : k ≤ 31) : (x &&& m).toBitVec.toNat = x.toBitVec.toNat % 2 ^ k := by
  rw [pk_and x k hm]
  refine pk_tn ?_
  exact Nat.lt_of_lt_of_le (Nat.mod_lt _ (Nat.two_pow_pos k)) (Nat.pow_le_pow_right (by omega) (by omega))
set_option maxRecDepth 10000 in
set_option maxHeartbeats 2000000 in
theorem tn_inj {x y : Int32} (h : x.toBitVec.toNat = y.toBitVec.toNat) : x = y := Int32.toBitVec_inj.mp (BitVec.eq_of_toNat_eq h)
set_option maxRecDepth 10000 in
set_option maxHeartbeats 2000000 in
theorem tn_add (x y : Int32) : (x + y).toBitVec.toNat = (x.toBitVec.toNat + y.toBitVec.toNat) % 2 ^ 32 := rfl
set_option maxRecDepth 10000 in
set_option maxHeartbeats 2000000 in
theorem add_mask (a b : Int32) {m : Int32} (k : Nat) (hm : m.toBitVec.toNat = 2 ^ k - 1) (hk : k ≤ 31) : (a + (b &&& m)) &&& m = (a + b) &&& m := by
  apply tn_inj
  rw [tn_and _ k hm hk, tn_and _ k hm hk, tn_add, tn_add, tn_and _ k hm hk]
  have d : 2 ^ k ∣ 2 ^ 32 := Nat.pow_dvd_pow 2 (by omega)
  rw [Nat.mod_mod_of_dvd _ d, Nat.mod_mod_of_dvd _ d, Nat.add_mod_mod]
set_option maxRecDepth 10000 in
set_option maxHeartbeats 2000000 in
theorem shl_mask (n : Int32) : (n &&& 16777215) <<< (8 &&& 31) = n <<< (8 &&& 31) := by
  apply tn_inj
  rw [pk_shl _ _ 8 (by decide), pk_shl _ _ 8 (by decide), tn_and _ 24 (by decide) (by omega)]
  omega
set_option maxRecDepth 10000 in
set_option maxHeartbeats 2000000 in
theorem or_mask (a b : Int32) {m : Int32} (h1 : a &&& m = a) (h2 : b &&& m = b) : (a ||| b) &&& m = a ||| b := by
  apply Int32.toBitVec_inj.mp
  have g1 := Int32.toBitVec_inj.mpr h1
  have g2 := Int32.toBitVec_inj.mpr h2
  rw [Int32.toBitVec_and] at g1 g2 ⊢
  rw [Int32.toBitVec_or]
  apply BitVec.eq_of_getLsbD_eq
  intro i hi
  have p1 := congrArg (fun v => v.getLsbD i) g1
  have p2 := congrArg (fun v => v.getLsbD i) g2
  simp only [BitVec.getLsbD_and, BitVec.getLsbD_or] at p1 p2 ⊢
  cases q1 : a.toBitVec.getLsbD i <;> cases q2 : b.toBitVec.getLsbD i <;> cases q3 : m.toBitVec.getLsbD i <;> simp_all
set_option maxRecDepth 10000 in
set_option maxHeartbeats 2000000 in
theorem by_next_ge {r : by_B} : ∀ (j i : Nat) (z : Int32), r.2.1 + j ≤ r.1 → (by_next j i r z).2 = (r.1, r.2.1 + j, r.2.2) := by
  intro j
  induction j generalizing r with
  | zero => intro i z h; rfl
  | succ j ih =>
    intro i z h
    unfold by_next
    rw [if_pos (by omega), ih (r := (r.1, r.2.1 + 1, r.2.2)) _ _ (by show r.2.1 + 1 + j ≤ r.1; omega)]
    show (r.1, r.2.1 + 1 + j, r.2.2) = _
    rw [show r.2.1 + 1 + j = r.2.1 + (j + 1) by omega]
set_option maxRecDepth 10000 in
set_option maxHeartbeats 2000000 in
theorem e_tk4 {K : Int32 → Int32 → mo_G → Option (Prod Int32 mo_G)} {g : mo_G} {r : by_B} {k : Nat} (hg : g.1 14 = nI r.2.1) (he : by_eq r (g.2 9)) (hk : k ≤ 4) (hr : r.2.1 + k ≤ r.1) (h384 : r.1 ≤ 384) : ∀ (j i N : Nat) (z : Int32), i + j = k → j < N → l_take_4 K N (nI k) z (nI i) g = K (nI k) (by_next j i (r.1, r.2.1 + i, r.2.2) z).1 g := by
  intro j
  induction j with
  | zero =>
    intro i N z hi hN
    obtain ⟨N, rfl⟩ : ∃ m, N = m + 1 := ⟨N - 1, by omega⟩
    rw [l_take_4, if_pos (nI_le (by omega) (by omega))]
    rfl
  | succ j ih =>
    intro i N z hi hN
    obtain ⟨N, rfl⟩ : ∃ m, N = m + 1 := ⟨N - 1, by omega⟩
    rw [l_take_4, if_neg (nI_ge (by omega) (by omega)), hg, nI_add, og_t (vp_in_nI (by omega) (by decide)), nI_clamp (by omega), he _ (by omega), nI_1]
    unfold by_next
    rw [if_pos (by show r.2.1 + i < r.1; omega)]
    exact ih (i + 1) N _ (by omega) (by omega)
def mo_sc (g : mo_G) (pl : Nat) (f : Nat → Int32) : mo_G := (upd g.1 14 (nI pl), mo_uA g.2 8 f)
set_option maxRecDepth 10000 in
set_option maxHeartbeats 2000000 in
theorem e_take {g : mo_G} {r : by_B} {k : Nat} {f : Nat → Int32} (he : by_eq r (g.2 9)) (hk : k ≤ 4) (hr : r.2.1 + k ≤ r.1) (h384 : r.1 ≤ 384) : r_take (nI k) (mo_sc g r.2.1 f) = some ((by_next k 0 r 0).1, mo_sc g (r.2.1 + k) f) := by
  unfold r_take
  have := e_tk4 (K := fun y3 y4 g2 => some (y4, (upd g2.1 14 (((g2.1 14) + y3)), g2.2))) (g := mo_sc g r.2.1 f) (r := r) (k := k) rfl he hk hr h384 k 0 2000 0 (by omega) (by omega)
  rw [nI_0] at this
  rw [this]
  show some (_, (upd (upd g.1 14 (nI r.2.1)) 14 (nI r.2.1 + nI k), _)) = _
  rw [ux, nI_add]
  rfl
set_option maxRecDepth 10000 in
set_option maxHeartbeats 2000000 in
theorem next_small {r : by_B} (ok : by_ok r) {k : Nat} (hk : k = 2 ∨ k = 3) (hr : r.2.1 + k ≤ r.1) : (by_next k 0 r 0).1 &&& (if k = 2 then 65535 else 16777215) = (by_next k 0 r 0).1 := by
  obtain ⟨j0, a0, b0⟩ := ok r.2.1 (by omega)
  obtain ⟨j1, a1, b1⟩ := ok (r.2.1 + 1) (by omega)
  have s0 : (nI j0 <<< ((8 * nI 0) &&& 31)) = nI (j0 * 2 ^ 0) := pk_shlN _ 0 (by decide) (by omega)
  have s1 : (nI j1 <<< ((8 * nI 1) &&& 31)) = nI (j1 * 2 ^ 8) := pk_shlN _ 8 (by decide) (by omega)
  rcases hk with rfl | rfl
  · rw [if_pos rfl]
    have e : (by_next 2 0 r 0).1 = ((0 : Int32) ||| (nI j0 <<< ((8 * nI 0) &&& 31))) ||| (nI j1 <<< ((8 * nI 1) &&& 31)) := by
      rw [by_next, if_pos (by omega), by_next, if_pos (by show r.2.1 + 1 < r.1; omega), by_next]
      show ((0 : Int32) ||| (r.2.2 r.2.1 <<< _)) ||| (r.2.2 (r.2.1 + 1) <<< _) = _
      rw [b0, b1]
    rw [e, s0, s1]
    refine or_mask _ _ (or_mask _ _ (by decide) ?_) ?_
    · rw [pk_andN (by omega) 16 (by decide), Nat.mod_eq_of_lt (by omega)]
    · rw [pk_andN (by omega) 16 (by decide), Nat.mod_eq_of_lt (by omega)]
  · obtain ⟨j2, a2, b2⟩ := ok (r.2.1 + 1 + 1) (by omega)
    have s2 : (nI j2 <<< ((8 * nI 2) &&& 31)) = nI (j2 * 2 ^ 16) := pk_shlN _ 16 (by decide) (by omega)
    rw [if_neg (by omega)]
    have e : (by_next 3 0 r 0).1 = (((0 : Int32) ||| (nI j0 <<< ((8 * nI 0) &&& 31))) ||| (nI j1 <<< ((8 * nI 1) &&& 31))) ||| (nI j2 <<< ((8 * nI 2) &&& 31)) := by
      rw [by_next, if_pos (by omega), by_next, if_pos (by show r.2.1 + 1 < r.1; omega), by_next, if_pos (by show r.2.1 + 1 + 1 < r.1; omega), by_next]
      show (((0 : Int32) ||| (r.2.2 r.2.1 <<< _)) ||| (r.2.2 (r.2.1 + 1) <<< _)) ||| (r.2.2 (r.2.1 + 1 + 1) <<< _) = _
      rw [b0, b1, b2]
    rw [e, s0, s1, s2]
    refine or_mask _ _ (or_mask _ _ (or_mask _ _ (by decide) ?_) ?_) ?_
    · rw [pk_andN (by omega) 24 (by decide), Nat.mod_eq_of_lt (by omega)]
    · rw [pk_andN (by omega) 24 (by decide), Nat.mod_eq_of_lt (by omega)]
    · rw [pk_andN (by omega) 24 (by decide), Nat.mod_eq_of_lt (by omega)]
def RS (g : mo_G) (p : pi_P) (k : Nat) : Prop := g.1 10 = nI p.1 ∧ g.1 11 = nI p.2.1 ∧ g.1 12 = nI p.2.2.1 ∧ g.1 13 = nI k ∧ ∀ c, c < p.2.2.1 → g.2 5 c = p.2.2.2.1 c ∧ g.2 6 c = p.2.2.2.2.1 c ∧ g.2 7 c = p.2.2.2.2.2.1 c
def SE (p : pi_P) (f : Nat → Int32) : Prop := ∀ q, q < 192 → f q = p.2.2.2.2.2.2 q
set_option maxRecDepth 10000 in
set_option maxHeartbeats 2000000 in
theorem SE.put {p : pi_P} {f : Nat → Int32} {c x y : Nat} {v : Int32} (h : SE p f) : SE (pi_put p c x y v) (upd f (64 * c + 8 * y + x) v) := by
  intro q hq
  show _ = upd p.2.2.2.2.2.2 (64 * c + 8 * y + x) v q
  by_cases z : q = 64 * c + 8 * y + x
  · rw [z, ux_s, ux_s]
  · rw [ux_n z, ux_n z]
    exact h q hq
set_option maxRecDepth 10000 in
set_option maxHeartbeats 2000000 in
theorem pi_sm_GP {p p' : pi_P} (h : pi_sm p p') (G : GP p) : GP p' := by
  obtain ⟨h1, h2, h3, h4, h5, h6⟩ := h
  unfold GP
  rw [h1, h2, h3, h5, h6]
  exact G
set_option maxRecDepth 10000 in
set_option maxHeartbeats 2000000 in
theorem pi_sm_GL {p p' : pi_P} (h : pi_sm p p') (G : GL p) : GL p' := by
  obtain ⟨h1, h2, h3, h4, h5, h6⟩ := h
  unfold GL
  rw [h3, h4]
  exact G
set_option maxRecDepth 10000 in
set_option maxHeartbeats 2000000 in
theorem pi_sm_RS {p p' : pi_P} {g : mo_G} {k : Nat} (h : pi_sm p p') (G : RS g p k) : RS g p' k := by
  obtain ⟨h1, h2, h3, h4, h5, h6⟩ := h
  unfold RS
  rw [h1, h2, h3, h4, h5, h6]
  exact G
set_option maxRecDepth 10000 in
set_option maxHeartbeats 2000000 in
theorem e_s80 {K : Int32 → Int32 → Int32 → Int32 → Int32 → mo_G → Option mo_G} {g : mo_G} {r0 : by_B} (he : by_eq r0 (g.2 9)) (ok : by_ok r0) (h384 : r0.1 ≤ 384) {c y k df : Nat} {a1 a2 : Int32} (hdf : df = 0 ∨ df = 1 ∧ k = 2) : ∀ (j i N : Nat) (bf x6 : Int32) (cu : Nat) (p : pi_P) (f : Nat → Int32), RS g p k → GP p → c < p.2.2.1 → y < p.2.1 → SE p f → i + j = pi_on p c p.1 → cu + j * rf_by (p.2.2.2.2.1 c) k ≤ r0.1 → j < N → (i = 0 → bf = 0) → (df = 1 → 0 < i → x6 = bf &&& (if rf_by (p.2.2.2.2.1 c) k = 2 then 65535 else 16777215)) → ∃ f', SE (tk_ln c y k (nI df) j i bf (r0.1, cu, r0.2.2) p).2 f' ∧ (tk_ln c y k (nI df) j i bf (r0.1, cu, r0.2.2) p).1 = (r0.1, cu + j * rf_by (p.2.2.2.2.1 c) k, r0.2.2) ∧ l_scatter_80 K N a1 a2 (nI df) (nI y) (nI c) x6 (nI (rf_by (p.2.2.2.2.1 c) k)) (nI (i * pi_st p c)) (mo_sc g cu f) = K a1 a2 (nI df) (nI y) (nI c) (mo_sc g (cu + j * rf_by (p.2.2.2.2.1 c) k) f') := by
  intro j
  induction j with
  | zero =>
    intro i N bf x6 cu p f RSp G hc hy hS hi hcu hN h0 hx6
    obtain ⟨N, rfl⟩ : ∃ m, N = m + 1 := ⟨N - 1, by omega⟩
    have h8 := G.1.2
    refine ⟨f, hS, by rw [Nat.zero_mul]; rfl, ?_⟩
    have hx := on_ge (p := p) (c := c) (i := i) (by omega)
    have hx2 : i * pi_st p c ≤ 8 * 2 := Nat.mul_le_mul (by have := on_le (c := c) G; omega) (by unfold pi_st; split <;> omega)
    rw [l_scatter_80, show (mo_sc g cu f).1 10 = nI p.1 from RSp.1, if_pos (nI_le hx (by omega)), Nat.zero_mul]
    rfl
  | succ j ih =>
    intro i N bf x6 cu p f RSp G hc hy hS hi hcu hN h0 hx6
    obtain ⟨N, rfl⟩ : ∃ m, N = m + 1 := ⟨N - 1, by omega⟩
    have h8 := G.1.2
    have hy8 := G.2.1.2
    have h3 := G.2.2.1
    have h4 := by4 (p.2.2.2.2.1 c) k
    rw [Nat.add_mul, Nat.one_mul] at hcu
    have hx := on_lt (p := p) (c := c) (i := i) G hc (by omega)
    obtain ⟨B, hB⟩ : ∃ B, B = rf_by (p.2.2.2.2.1 c) k := ⟨_, rfl⟩
    have hcuB : cu + B ≤ r0.1 := by omega
    have tk := e_take (g := g) (r := (r0.1, cu, r0.2.2)) (k := B) (f := f) he (by omega) hcuB h384
    have nx2 := by_next_ge (r := (r0.1, cu, r0.2.2)) B 0 0 hcuB
    obtain ⟨v0, hv0⟩ : ∃ v0, v0 = (by_next B 0 (r0.1, cu, r0.2.2) 0).1 := ⟨_, rfl⟩
    rw [← hv0] at tk
    obtain ⟨nb, hnb⟩ : ∃ nb, nb = tk_n B (nI df) bf (r0.1, cu, r0.2.2) := ⟨_, rfl⟩
    have hnb2 : nb = v0 + (if nI df = 0 then 0 else bf) := by rw [hnb, hv0]; rfl
    have key : ∃ W : Int32, (df = 1 → W = nb &&& (if B = 2 then 65535 else 16777215)) ∧ (if B = 3 then W <<< (8 &&& 31) else W) = tk_v B nb ∧ l_scatter_80 K (N + 1) a1 a2 (nI df) (nI y) (nI c) x6 (nI B) (nI (i * pi_st p c)) (mo_sc g cu f) = j_scatter_127 K (fun x1 x2 x3 x4 x5 x6 x7 x8 g => l_scatter_80 K N x1 x2 x3 x4 x5 x6 x7 x8 g) a1 a2 (nI df) (nI y) (nI c) (nI B) (nI (i * pi_st p c)) W (mo_sc g (cu + B) f) := by
      have hB4 : B = 2 ∨ B = 3 ∨ B = 4 := by omega
      have hsm : B = 2 ∨ B = 3 → v0 &&& (if B = 2 then 65535 else 16777215) = v0 := fun z => by rw [hv0]; exact next_small (r := (r0.1, cu, r0.2.2)) ok z hcuB
      rw [l_scatter_80, show (mo_sc g cu f).1 10 = nI p.1 from RSp.1, if_neg (nI_ge hx (by omega)), tk, Option.bind_some]
      have plain : nb = v0 → (df = 1 → v0 = nb &&& (if B = 2 then 65535 else 16777215)) ∧ (if B = 3 then v0 <<< (8 &&& 31) else v0) = tk_v B nb := by
        intro e
        rw [e]
        constructor
        · intro hd
          have hk2 : k = 2 := by omega
          refine (hsm ?_).symm
          rw [hB, hk2]
          unfold rf_by
          split <;> simp
        · unfold tk_v
          rcases hB4 with z | z | z
          · rw [z, if_neg (by decide), if_pos rfl]
            have := hsm (Or.inl z)
            rw [if_pos z] at this
            exact this.symm
          · rw [z]
            rfl
          · rw [z]
            rfl
      rcases hdf with hd | ⟨hd, hk2⟩
      · have e : nb = v0 := by rw [hnb2, hd, if_pos nI_0]; exact Int32.add_zero _
        refine ⟨v0, (plain e).1, (plain e).2, ?_⟩
        rw [if_pos (by rw [hd]; rfl)]
      · have hd1 : ¬ nI df = 0 := by rw [hd]; decide
        rw [if_neg hd1]
        by_cases q : i = 0
        · have e : nb = v0 := by rw [hnb2, if_neg hd1, h0 q]; exact Int32.add_zero _
          refine ⟨v0, (plain e).1, (plain e).2, ?_⟩
          rw [if_pos (by rw [q, Nat.zero_mul]; decide)]
        · have hi0 : 0 < i * pi_st p c := Nat.mul_pos (by omega) (by unfold pi_st; split <;> omega)
          rw [if_neg (nI_nle hi0 (by omega))]
          have hB23 : B = 2 ∨ B = 3 := by
            rw [hB, hk2]
            unfold rf_by
            split <;> simp
          have e : nb = v0 + bf := by rw [hnb2, if_neg hd1]
          have hx := hx6 hd (by omega)
          rw [← hB] at hx
          unfold j_scatter_124
          rcases hB23 with z | z
          · rw [z, if_pos rfl] at hx
            refine ⟨(v0 + x6) &&& 65535, fun _ => ?_, ?_, ?_⟩
            · rw [hx, add_mask _ _ 16 (by decide) (by omega), e, z, if_pos rfl]
            · rw [z, if_neg (by decide), hx, add_mask _ _ 16 (by decide) (by omega), ← e]
              rfl
            · rw [if_pos (by rw [z]; rfl)]
          · rw [z, if_neg (by decide)] at hx
            refine ⟨(v0 + x6) &&& 16777215, fun _ => ?_, ?_, ?_⟩
            · rw [hx, add_mask _ _ 24 (by decide) (by omega), e, z, if_neg (by decide)]
            · rw [z, if_pos rfl, hx, add_mask _ _ 24 (by decide) (by omega), ← e, shl_mask]
              rfl
            · rw [if_neg (by rw [z]; decide)]
    obtain ⟨W, w1, w2, w3⟩ := key
    have sm : pi_sm p (pi_put p c (i * pi_st p c) y (tk_v B nb)) := pi_sm.put
    obtain ⟨f', h1, h2, h5⟩ := ih (i + 1) N nb W (cu + B) (pi_put p c (i * pi_st p c) y (tk_v B nb)) (upd f (64 * c + 8 * y + i * pi_st p c) (tk_v B nb)) (pi_sm_RS sm RSp) (pi_sm_GP sm G) hc hy hS.put (by rw [sm.on]; show i + 1 + j = pi_on p c p.1; omega) (by show cu + B + j * rf_by (p.2.2.2.2.1 c) k ≤ r0.1; omega) (by omega) (fun z => by omega) (fun z _ => by show W = nb &&& (if rf_by (p.2.2.2.2.1 c) k = 2 then 65535 else 16777215); rw [← hB]; exact w1 z)
    have et : tk_ln c y k (nI df) (j + 1) i bf (r0.1, cu, r0.2.2) p = tk_ln c y k (nI df) j (i + 1) nb (r0.1, cu + B, r0.2.2) (pi_put p c (i * pi_st p c) y (tk_v B nb)) := by
      show tk_ln c y k (nI df) j (i + 1) (tk_n (rf_by (p.2.2.2.2.1 c) k) (nI df) bf (r0.1, cu, r0.2.2)) (by_next (rf_by (p.2.2.2.2.1 c) k) 0 (r0.1, cu, r0.2.2) 0).2 (pi_put p c (i * pi_st p c) y (tk_v (rf_by (p.2.2.2.2.1 c) k) (tk_n (rf_by (p.2.2.2.2.1 c) k) (nI df) bf (r0.1, cu, r0.2.2)))) = _
      rw [← hB, nx2, ← hnb]
    rw [et]
    refine ⟨f', h1, ?_, ?_⟩
    · rw [h2]
      show (r0.1, cu + B + j * rf_by (p.2.2.2.2.1 c) k, r0.2.2) = _
      rw [show cu + B + j * rf_by (p.2.2.2.2.1 c) k = cu + (j + 1) * rf_by (p.2.2.2.2.1 c) k by rw [Nat.add_mul]; omega]
    · rw [← hB, w3]
      unfold j_scatter_127 j_scatter_165
      rw [ix3, og_t (vp_in_nI (by omega) (by decide)), og_t (vp_in_nI (by omega) (by decide)), nI_clamp (by omega), nI_clamp (by omega)]
      rw [show (mo_sc g (cu + B) f).2 7 c = nI (pi_st p c) from ((RSp.2.2.2.2 c hc).2.2).trans (st_eq G hc), nI_add]
      have h5' : l_scatter_80 K N a1 a2 (nI df) (nI y) (nI c) W (nI B) (nI ((i + 1) * pi_st p c)) (mo_sc g (cu + B) (upd f (64 * c + 8 * y + i * pi_st p c) (tk_v B nb))) = K a1 a2 (nI df) (nI y) (nI c) (mo_sc g (cu + (j + 1) * B) f') := by
        rw [show cu + (j + 1) * B = cu + B + j * B by rw [Nat.add_mul]; omega, hB]
        rw [← hB]
        have := h5
        show l_scatter_80 K N a1 a2 (nI df) (nI y) (nI c) W (nI B) _ _ = _
        rw [show rf_by ((pi_put p c (i * pi_st p c) y (tk_v B nb)).2.2.2.2.1 c) k = B from hB.symm] at this
        exact this
      rw [← h5', show i * pi_st p c + pi_st p c = (i + 1) * pi_st p c from (Nat.succ_mul _ _).symm]
      have eS : ∀ w : Int32, ((mo_sc g (cu + B) f).1, mo_uA (mo_sc g (cu + B) f).2 8 (upd ((mo_sc g (cu + B) f).2 8) (64 * c + 8 * y + i * pi_st p c) w)) = mo_sc g (cu + B) (upd f (64 * c + 8 * y + i * pi_st p c) w) := by
        intro w
        unfold mo_sc
        show (_, mo_uA (mo_uA g.2 8 f) 8 _) = _
        rw [uA]
        rfl
      rw [eS, eS, ← w2]
      by_cases z : B = 3
      · rw [if_pos (show nI B = 3 by rw [z]; rfl), if_pos z]
      · rw [if_neg (show ¬ nI B = 3 from fun q => z (by rw [show (3 : Int32) = nI 3 from rfl, nI_eq (by omega) (by omega)] at q; exact q)), if_neg z, og_t (vp_in_nI (by omega) (by decide)), og_t (vp_in_nI (by omega) (by decide))]
