set_option maxRecDepth 10000 in
set_option maxHeartbeats 2000000 in
theorem BD.two {g0 g : mo_G} {x : rd_X} (h : BD g0 g x) : r_two g = some (0 + 256 * 0, g) := by
  unfold r_two
  rw [h.next, Option.bind_some, h.next, Option.bind_some]
set_option maxRecDepth 10000 in
set_option maxHeartbeats 2000000 in
theorem BD.j101 {g0 g : mo_G} {x : rd_X} (h : BD g0 g x) {x1 x2 x3 x4 x6 : Int32} : j_readChunk_101 x1 x2 x3 x4 x6 g = some g := by
  unfold j_readChunk_101
  rw [if_neg h.pos.1]
set_option maxRecDepth 10000 in
set_option maxHeartbeats 2000000 in
theorem BD.j71 {g0 g : mo_G} {x : rd_X} (h : BD g0 g x) {x1 x2 x3 x4 x6 : Int32} : j_readChunk_71 x1 x2 x3 x4 x6 g = some g := by
  unfold j_readChunk_71
  rw [if_neg h.pos.2]
  exact h.j101
set_option maxRecDepth 10000 in
set_option maxHeartbeats 2000000 in
theorem e_rc128 {K : Int32 → Int32 → Int32 → Int32 → mo_G → Option mo_G} {g : mo_G} {b : by_B} (I : FI g b) {pl w : Nat} (h8 : g.1 8 = nI pl) (hb : pl + w ≤ b.1) (hw : w ≤ 384) {a1 a2 a3 a7 : Int32} : ∀ (j i N : Nat) (r : by_B) (f : Nat → Int32), by_eq r f → r.1 = i → i + j = w → j < N → ∃ f', by_eq (by_addP 384 b j (pl + i) r) f' ∧ (by_addP 384 b j (pl + i) r).1 = w ∧ l_readChunk_128 K N a1 a2 a3 (nI w) a7 (nI i) (g.1, mo_uA g.2 9 f) = K a1 a2 a3 a7 (g.1, mo_uA g.2 9 f') := by
  have hl := I.2.2.1
  intro j
  induction j with
  | zero =>
    intro i N r f hf hr hi hN
    obtain ⟨N, rfl⟩ : ∃ m, N = m + 1 := ⟨N - 1, by omega⟩
    refine ⟨f, hf, by show r.1 = w; omega, ?_⟩
    rw [l_readChunk_128, if_pos (nI_le (by omega) (by omega))]
  | succ j ih =>
    intro i N r f hf hr hi hN
    obtain ⟨N, rfl⟩ : ∃ m, N = m + 1 := ⟨N - 1, by omega⟩
    obtain ⟨a1', a2', a3'⟩ := I.at (k := pl + i) (by omega)
    obtain ⟨f', h1, h2, h3⟩ := ih (i + 1) N _ _ (by_eq_cons (N := 384) (x := by_get b (nI (pl + i))) hf (by omega) (show by_get b (nI (pl + i)) &&& 255 = nI (by_h b (pl + i)) by rw [a3', b255 a2'])) (by rw [by_add_1 (by omega)]; omega) (by omega) (by omega)
    refine ⟨f', h1, h2, ?_⟩
    rw [l_readChunk_128, if_neg (nI_ge (by omega) (by omega)), show (g.1, mo_uA g.2 9 f).1 8 = nI pl from h8, nI_add, og_t (vp_in_nI (by omega) (by decide)), og_t (vp_in_nI (by omega) (by decide)), nI_clamp (by omega), nI_clamp (by omega), nI_1]
    rw [show (g.1, mo_uA g.2 9 f).2 4 (pl + i) = g.2 4 (pl + i) from rfl, a1']
    show l_readChunk_128 K N _ _ _ _ _ _ (g.1, mo_uA (mo_uA g.2 9 f) 9 (upd f i _)) = _
    rw [uA, ← hr]
    rw [← hr] at h3
    exact h3
set_option maxRecDepth 10000 in
set_option maxHeartbeats 2000000 in
theorem RS_of {g g' : mo_G} {p : pi_P} {k : Nat} (R : RS g p k) (h : KN g g') : RS g' p k := by
  refine ⟨(h.1 10 (by omega)).trans R.1, (h.1 11 (by omega)).trans R.2.1, (h.1 12 (by omega)).trans R.2.2.1, (h.1 13 (by omega)).trans R.2.2.2.1, fun c hc => ?_⟩
  rw [h.2 5 (by omega) (by omega), h.2 6 (by omega) (by omega), h.2 7 (by omega) (by omega)]
  exact R.2.2.2.2 c hc
set_option maxRecDepth 10000 in
set_option maxHeartbeats 2000000 in
theorem e_c222 {g0 g : mo_G} {b : by_B} {x : rd_X} {p : pi_P} {k y0 ln pl0 E : Nat} (F : FD g0 g) (h4 : g.1 4 = x.1) (h9 : g.1 9 = 0) (hx2 : x.2.1 = 0) (RSp : RS g p k) (G : GP p) (hS : SE p (g.2 8)) (hl : y0 + ln ≤ p.2.1) (he : pi_end p y0 k = y0 + ln) (hz : ZI p (y0 + ln)) (hE : x.2.2.2 = E) : ∃ g', j_readChunk_222 (nI y0) (nI ln) (nI pl0) (nI E) g = some g' ∧ (pi_okN p y0 k = true → RR g0 g' x ∧ RS g' p k ∧ SE p (g'.2 8)) ∧ (pi_okN p y0 k = false → BD g0 g' (rd_fl x (nI pl0))) := by
  have F2 : FD g (upd g.1 8 (nI E), g.2) := .v (Or.inl (by omega))
  have R2 : RS (upd g.1 8 (nI E), g.2) p k := RSp
  have hRR : RR g0 (upd g.1 8 (nI E), g.2) x := ⟨F.tr F2, h4, h9, by show nI E = _; rw [hE], hx2⟩
  unfold j_readChunk_222
  rw [e_sound (g := (upd g.1 8 (nI E), g.2)) R2 G hS hl he hz, Option.bind_some]
  by_cases q : pi_okN p y0 k = true
  · have e1 : (if pi_okN p y0 k = true then (1 : Int32) else 0) = 1 := if_pos q
    rw [e1, if_neg (show ¬ (1 : Int32) = 0 by decide)]
    exact ⟨_, rfl, fun _ => ⟨hRR, R2, hS⟩, fun z => by rw [q] at z; exact Bool.noConfusion z⟩
  · have e1 : (if pi_okN p y0 k = true then (1 : Int32) else 0) = 0 := if_neg q
    rw [e1, if_pos rfl, hRR.wrong, Option.bind_some]
    exact ⟨_, rfl, fun z => absurd z q, fun _ => hRR.bad _⟩
set_option maxRecDepth 10000 in
set_option maxHeartbeats 2000000 in
theorem FD.sc {g : mo_G} {n : Nat} {f : Nat → Int32} : FD g (mo_sc g n f) := ⟨fun i h1 h2 => ux_n (by omega), fun j hj => uA_n (by omega)⟩
set_option maxRecDepth 10000 in
set_option maxHeartbeats 2000000 in
theorem FD.tb {g : mo_G} {f : Nat → Int32} : FD g (mo_tb g f) := ⟨fun i h1 h2 => Eq.refl _, fun j hj => uA_n (by omega)⟩
set_option maxRecDepth 10000 in
set_option maxHeartbeats 2000000 in
theorem e_rchunk {g0 g : mo_G} {b : by_B} {x : rd_X} {p : pi_P} {y0 ln : Nat} (h : RR g0 g x) (I : FI g0 b) (hp : x.2.2.2 ≤ b.1) (hk : x.2.2.1 < 4) (RSp : RS g p x.2.2.1) (G : GP p) (hS : SE p (g.2 8)) (hz : ZI p y0) (hy0 : y0 < p.2.1) (he : pi_end p y0 x.2.2.1 = y0 + ln) (h4 : ln ≤ 4) (hy : x.2.2.1 = 3 → y0 % 2 = 0) (f : Nat → Int32) (r s : by_B) : ∃ g', r_readChunk (nI y0) (nI ln) g = some g' ∧ ((rd_ck b y0 x f r s p).1 = true → RR g0 g' (rd_ck b y0 x f r s p).2.1 ∧ RS g' (rd_ck b y0 x f r s p).2.2.2.2.2 x.2.2.1 ∧ SE (rd_ck b y0 x f r s p).2.2.2.2.2 (g'.2 8) ∧ pi_sm p (rd_ck b y0 x f r s p).2.2.2.2.2 ∧ ZI (rd_ck b y0 x f r s p).2.2.2.2.2 (y0 + ln) ∧ (rd_ck b y0 x f r s p).2.1.2.2.2 ≤ b.1 ∧ (rd_ck b y0 x f r s p).2.1.2.2.1 = x.2.2.1) ∧ ((rd_ck b y0 x f r s p).1 = false → BD g0 g' (rd_ck b y0 x f r s p).2.1) := by
  have hl := I.2.2.1
  have hy8 := G.2.1.2
  have hln : y0 + ln ≤ p.2.1 := by rw [← he]; exact pi_end_le _ _ _
  obtain ⟨k, hkk⟩ : ∃ k, k = x.2.2.1 := ⟨_, rfl⟩
  rw [← hkk] at hk RSp he hy ⊢
  have hraw : pi_raw p y0 k = pi_rwY p k ln y0 0 := by unfold pi_raw; rw [he, Nat.add_sub_cancel_left]
  obtain ⟨W, hW⟩ : ∃ W, W = pi_rwY p k ln y0 0 := ⟨_, rfl⟩
  have hW384 : W ≤ 384 := by rw [hW]; have := pi_rwY_le p k ⟨G.1.2, G.2.1.2, G.2.2.1⟩ ln y0 0; omega
  have RNp : RN g p := ⟨RSp.1, RSp.2.1, RSp.2.2.2.2, hS⟩
  unfold r_readChunk
  rw [e_wanted RNp G RSp.2.2.1 RSp.2.2.2.1 hk (by omega), Option.bind_some, ← hW]
  have hF : ∀ {y : rd_X} {g1 : mo_G} {rest : (Nat → Int32) × by_B × by_B × pi_P}, BD g0 g1 y → rd_ck b y0 x f r s p = (false, y, rest) → ∀ {o : Option mo_G}, o = some g1 → ∃ g', o = some g' ∧ ((rd_ck b y0 x f r s p).1 = true → RR g0 g' (rd_ck b y0 x f r s p).2.1 ∧ RS g' (rd_ck b y0 x f r s p).2.2.2.2.2 k ∧ SE (rd_ck b y0 x f r s p).2.2.2.2.2 (g'.2 8) ∧ pi_sm p (rd_ck b y0 x f r s p).2.2.2.2.2 ∧ ZI (rd_ck b y0 x f r s p).2.2.2.2.2 (y0 + ln) ∧ (rd_ck b y0 x f r s p).2.1.2.2.2 ≤ b.1 ∧ (rd_ck b y0 x f r s p).2.1.2.2.1 = k) ∧ ((rd_ck b y0 x f r s p).1 = false → BD g0 g' (rd_ck b y0 x f r s p).2.1) := by
    intro y g1 rest B e o ho
    refine ⟨g1, ho, ?_, ?_⟩
    · rw [e]; intro z; exact Bool.noConfusion z
    · rw [e]; intro _; exact B
  obtain ⟨v1, g1, a1, a2, a3⟩ := e_next h I hp (nI y0) (nI y0)
  rw [a1, Option.bind_some]
  by_cases q1 : ¬ (rd_nx b (nI y0) (nI y0) x).1 = true
  · have B := a3 (bF q1)
    have e0 : rd_ck b y0 x f r s p = (false, (rd_nx b (nI y0) (nI y0) x).2, f, r, s, p) := if_neg q1
    refine hF B e0 ?_
    rw [B.two, Option.bind_some, if_neg B.pos.2]
    exact B.j71
  replace q1 := Decidable.not_not.mp q1
  obtain ⟨b1, b2, b3, b4⟩ := a2 q1
  have go1 := (rd_nx_g q1).1
  have c0 : rd_ck b y0 x f r s p = rd_ckA b y0 x.2.2.2 (rd_go x 1) f r s p := by
    unfold rd_ck
    rw [if_pos q1, go1]
  rw [go1] at b3
  obtain ⟨t1, t2⟩ := e_two b3 I (by show x.2.2.2 + 1 ≤ b.1; omega)
  by_cases q2 : b.1 < x.2.2.2 + 1 + 2
  · obtain ⟨v, g2, d1, B⟩ := t1 q2
    have e0 : rd_ck b y0 x f r s p = (false, rd_fl (rd_go x 1) (nI b.1), f, r, s, p) := by
      rw [c0]
      exact if_pos q2
    refine hF B e0 ?_
    rw [d1, Option.bind_some, if_neg B.pos.2]
    exact B.j71
  obtain ⟨d1, d2⟩ := t2 (by show x.2.2.2 + 1 + 2 ≤ b.1; omega)
  obtain ⟨sz, hsz⟩ : ∃ sz, sz = rd_sz b (x.2.2.2 + 1) := ⟨_, rfl⟩
  have hsz6 : sz < 65536 := by rw [hsz]; exact (rd_two I.2.2.2 hl (show x.2.2.2 + 1 + 2 ≤ b.1 by omega)).2
  rw [show rd_sz b (rd_go x 1).2.2.2 = sz from hsz.symm] at d1
  rw [d1, Option.bind_some]
  obtain ⟨g2, hg2⟩ : ∃ g2 : mo_G, g2 = (upd g1.1 8 (nI ((rd_go x 1).2.2.2 + 2)), g1.2) := ⟨_, rfl⟩
  rw [← hg2] at d2 ⊢
  have K2 : KN g g2 := by
    rw [hg2, b2]
    exact KN.tr (KN.v (by omega)) (KN.v (by omega))
  have hS2 : g2.2 8 = g.2 8 := K2.2 8 (by omega) (by omega)
  have R2 : RS g2 p k := RS_of RSp K2
  have cA : rd_ckA b y0 x.2.2.2 (rd_go x 1) f r s p = if W < sz ∨ (k = 0 ∧ sz < W) then (false, rd_fl (rd_go x 1) (nI (x.2.2.2 + 1)), f, r, s, p) else if b.1 < x.2.2.2 + 1 + 2 + sz then (false, rd_fl (rd_go (rd_go x 1) 2) (nI b.1), f, r, s, p) else rd_ckB b y0 x.2.2.2 sz W (rd_go (rd_go x 1) 2) f r s p := by
    unfold rd_ckA
    rw [if_neg (show ¬ b.1 < (rd_go x 1).2.2.2 + 2 from q2)]
    show (if pi_raw p y0 x.2.2.1 < rd_sz b (x.2.2.2 + 1) ∨ (x.2.2.1 = 0 ∧ rd_sz b (x.2.2.2 + 1) < pi_raw p y0 x.2.2.1) then _ else if b.1 < x.2.2.2 + 1 + 2 + rd_sz b (x.2.2.2 + 1) then _ else rd_ckB b y0 x.2.2.2 (rd_sz b (x.2.2.2 + 1)) (pi_raw p y0 x.2.2.1) _ f r s p) = _
    rw [← hsz, ← hkk, hraw, ← hW]
    rfl
  have h9 : g2.1 9 = 0 := d2.2.2.1
  have h8 : g2.1 8 = nI (x.2.2.2 + 1 + 2) := by rw [hg2]; rfl
  have e18 : g1.1 8 = nI (x.2.2.2 + 1) := by rw [b2]; rfl
  have e1 : ∀ (A B : Option mo_G), (if g2.1 9 = 0 then (if g2.1 13 = 0 then (if nI sz = nI W then A else B) else (if nI sz ≤ nI W then A else B)) else A) = if W < sz ∨ (k = 0 ∧ sz < W) then B else A := by
    intro A B
    rw [if_pos h9, R2.2.2.2.1]
    by_cases z0 : k = 0
    · rw [if_pos (show nI k = 0 by rw [z0]; rfl)]
      by_cases z1 : sz = W
      · rw [if_pos (by rw [z1]), if_neg (by omega)]
      · rw [if_neg (fun w => z1 ((nI_eq (by omega) (by omega)).mp w)), if_pos (by omega)]
    · rw [if_neg (nI_ne0 (by omega) (by omega))]
      by_cases z1 : W < sz
      · rw [if_neg (nI_ge z1 (by omega)), if_pos (Or.inl z1)]
      · rw [if_pos (nI_le (by omega) (by omega)), if_neg (by omega)]
  show ∃ g', (if g2.1 9 = 0 then (if g2.1 13 = 0 then (if nI sz = nI W then (j_readChunk_71 (nI y0) (nI ln) (g.1 8) (nI W) (nI sz) g2) else (j_readChunk_64 (nI y0) (nI ln) (g.1 8) (nI W) (g1.1 8) (nI sz) g2)) else (if nI sz ≤ nI W then (j_readChunk_71 (nI y0) (nI ln) (g.1 8) (nI W) (nI sz) g2) else (j_readChunk_64 (nI y0) (nI ln) (g.1 8) (nI W) (g1.1 8) (nI sz) g2))) else (j_readChunk_71 (nI y0) (nI ln) (g.1 8) (nI W) (nI sz) g2)) = some g' ∧ _
  rw [e1, h.2.2.2.1, e18]
  by_cases q3 : W < sz ∨ (k = 0 ∧ sz < W)
  · rw [if_pos q3]
    have e0 : rd_ck b y0 x f r s p = (false, rd_fl (rd_go x 1) (nI (x.2.2.2 + 1)), f, r, s, p) := by rw [c0, cA, if_pos q3]
    have B := d2.bad (nI (x.2.2.2 + 1))
    have B' : BD g0 (upd (upd g2.1 4 (nI (x.2.2.2 + 1))) 9 1, g2.2) (rd_fl (rd_go x 1) (nI (x.2.2.2 + 1))) := B
    refine hF B' e0 ?_
    unfold j_readChunk_64
    rw [d2.wrong, Option.bind_some]
    exact B.j71
  rw [if_neg q3]
  unfold j_readChunk_71
  rw [if_pos h9, h8, (I.fd d2.1).1, nI_add]
  by_cases q4 : b.1 < x.2.2.2 + 1 + 2 + sz
  · rw [if_neg (nI_ge q4 (by omega))]
    have e0 : rd_ck b y0 x f r s p = (false, rd_fl (rd_go (rd_go x 1) 2) (nI b.1), f, r, s, p) := by rw [c0, cA, if_neg q3, if_pos q4]
    have B := d2.bad (nI b.1)
    refine hF B e0 ?_
    rw [d2.wrong, Option.bind_some]
    exact B.j101
  rw [if_pos (nI_le (by omega) (by omega))]
  unfold j_readChunk_101
  rw [if_pos (by rw [h9]; decide), h8, nI_add]
  obtain ⟨x2, hx2⟩ : ∃ x2, x2 = rd_go (rd_go x 1) 2 := ⟨_, rfl⟩
  rw [← hx2] at d2
  have px2 : x2.2.2.2 = x.2.2.2 + 1 + 2 := by rw [hx2]; rfl
  have kx2 : x2.2.2.1 = k := by rw [hx2, hkk]; rfl
  have cB : rd_ck b y0 x f r s p = rd_ckB b y0 x.2.2.2 sz W x2 f r s p := by rw [c0, cA, if_neg q3, if_neg q4, hx2]
  have I2 : FI g2 b := I.fd d2.1
  have fin : ∀ (g3 : mo_G) (r' s' : by_B) (t3 : Nat → Int32), FD g0 g3 → g3.1 4 = x2.1 → g3.1 9 = 0 → RS g3 p k → SE (tk_rd y0 k (sz < W) (f, r', p)).2.2 (g3.2 8) → ch_ p (tk_rd y0 k (sz < W) (f, r', p)).2.2 y0 (y0 + ln) → (co_rd b x2.2.2.2 (x2.2.2.2 + sz) W r s) = (-2, r', s') → ∃ g', j_readChunk_222 (nI y0) (nI ln) (nI x.2.2.2) (nI (x.2.2.2 + 1 + 2 + sz)) g3 = some g' ∧ ((rd_ck b y0 x f r s p).1 = true → RR g0 g' (rd_ck b y0 x f r s p).2.1 ∧ RS g' (rd_ck b y0 x f r s p).2.2.2.2.2 k ∧ SE (rd_ck b y0 x f r s p).2.2.2.2.2 (g'.2 8) ∧ pi_sm p (rd_ck b y0 x f r s p).2.2.2.2.2 ∧ ZI (rd_ck b y0 x f r s p).2.2.2.2.2 (y0 + ln) ∧ (rd_ck b y0 x f r s p).2.1.2.2.2 ≤ b.1 ∧ (rd_ck b y0 x f r s p).2.1.2.2.1 = k) ∧ ((rd_ck b y0 x f r s p).1 = false → BD g0 g' (rd_ck b y0 x f r s p).2.1) := by
    intro g3 r' s' _ F3 h43 h93 R3 S3 C3 eco
    obtain ⟨P, hP⟩ : ∃ P, P = (tk_rd y0 k (sz < W) (f, r', p)).2.2 := ⟨_, rfl⟩
    rw [← hP] at S3 C3
    have sm := C3.1
    have Z3 : ZI P (y0 + ln) := hz.ch C3 (by omega)
    obtain ⟨g', u1, u2, u3⟩ := e_c222 (b := b) (x := rd_go x2 sz) (p := P) (k := k) (y0 := y0) (ln := ln) (pl0 := x.2.2.2) (E := x.2.2.2 + 1 + 2 + sz) F3 h43 h93 (show x2.2.1 = 0 from d2.2.2.2.2) (pi_sm_RS sm R3) (pi_sm_GP sm G) S3 (by rw [sm.2.1]; exact hln) (by rw [sm.en]; exact he) Z3 (by show x2.2.2.2 + sz = _; rw [px2])
    have cC : rd_ck b y0 x f r s p = if pi_okN P y0 k = true then (true, rd_go x2 sz, (tk_rd y0 k (sz < W) (f, r', p)).1, (tk_rd y0 k (sz < W) (f, r', p)).2.1, s', P) else (false, rd_fl (rd_go x2 sz) (nI x.2.2.2), (tk_rd y0 k (sz < W) (f, r', p)).1, (tk_rd y0 k (sz < W) (f, r', p)).2.1, s', P) := by
      rw [cB]
      unfold rd_ckB
      rw [eco, if_pos rfl, kx2]
      unfold rd_ckC
      rw [← hP]
    refine ⟨g', u1, ?_, ?_⟩
    · rw [cC]
      by_cases z : pi_okN P y0 k = true
      · rw [if_pos z]
        intro _
        obtain ⟨w1, w2, w3⟩ := u2 z
        exact ⟨w1, w2, w3, sm, Z3, by show x2.2.2.2 + sz ≤ b.1; omega, kx2⟩
      · rw [if_neg z]
        intro w
        exact Bool.noConfusion w
    · rw [cC]
      by_cases z : pi_okN P y0 k = true
      · rw [if_pos z]
        intro w
        exact Bool.noConfusion w
      · rw [if_neg z]
        intro _
        exact u3 (bF z)
  by_cases q5 : sz = W
  · rw [if_pos (by rw [q5])]
    obtain ⟨f1, m1, m2, m3⟩ := e_rc128 (K := fun y12 y13 y14 y15 g11 => (r_scatter y12 y13 0 g11).bind (fun z16 => j_readChunk_222 y12 y13 y14 y15 z16)) I2 (pl := x.2.2.2 + 1 + 2) (w := W) h8 (by omega) hW384 (a1 := nI y0) (a2 := nI ln) (a3 := nI x.2.2.2) (a7 := nI (x.2.2.2 + 1 + 2 + sz)) W 0 2000 (0, 0, r.2.2) (g2.2 9) (fun k hk => absurd hk (Nat.not_lt_zero k)) rfl (by omega) (by omega)
    rw [Nat.add_zero] at m1 m2
    obtain ⟨r', hr'⟩ : ∃ r', r' = by_addP 384 b W (x.2.2.2 + 1 + 2) (0, 0, r.2.2) := ⟨_, rfl⟩
    rw [← hr'] at m1 m2
    have okr : by_ok r' := by rw [hr']; exact by_ok_addP _ _ _ _ _ (by_ok_0 _ _)
    have cur : r'.2.1 = 0 := by rw [hr']; exact by_addP_cu _ _ _ _ _
    have eco : co_rd b x2.2.2.2 (x2.2.2.2 + sz) W r s = (-2, r', s) := by
      unfold co_rd
      rw [if_neg (by omega), Nat.add_sub_cancel_left, q5, px2, ← hr']
    have R9 : RS (g2.1, mo_uA g2.2 9 f1) p k := R2
    obtain ⟨f2, n2, s1, s2, s3⟩ := e_scatter (g := (g2.1, mo_uA g2.2 9 f1)) (r0 := r') (y0 := y0) (ln := ln) (k := k) (df := 0) m1 okr (by omega) (Or.inl rfl) hk (p := p) R9 G hln (by show SE p (g2.2 8); rw [hS2]; exact hS) cur (by omega)
    have etk : (tk_rd y0 k (sz < W) (f, r', p)).2.2 = (tk_lnY k (nI 0) ln y0 (r', p)).2 := by
      unfold tk_rd
      rw [if_neg (fun w => by have := w.1; omega)]
      show (tk_lns y0 k (if sz < W ∧ k = 2 then 1 else 0) r' p).2 = _
      rw [if_neg (fun w => by have := w.1; omega)]
      unfold tk_lns
      rw [he, Nat.add_sub_cancel_left]
      rfl
    have e9 : (g2.1, mo_uA g2.2 9 (g2.2 9)) = g2 := by
      refine Prod.ext rfl ?_
      funext i
      show mo_uA g2.2 9 (g2.2 9) i = g2.2 i
      by_cases z : i = 9
      · rw [z, uA_s]
      · exact uA_n z
    rw [e9, nI_0] at m3
    have C1 := ch_lnY k (nI 0) ln y0 r' p G
    have := fin (mo_sc (g2.1, mo_uA g2.2 9 f1) n2 f2) r' s f ((d2.1.tr (.a (by omega))).tr FD.sc) d2.2.1 h9 R9 (by rw [etk]; exact s1) (by rw [etk]; exact C1) eco
    refine Exists.imp (fun g' => And.imp_left (fun e => ?_)) this
    refine m3.trans ?_
    show ((r_scatter (nI y0) (nI ln) (nI 0) (g2.1, mo_uA g2.2 9 f1)).bind _) = _
    rw [s3, Option.bind_some]
    exact e
  · have hlt : sz < W := by omega
    have hk0 : ¬ k = 0 := by omega
    rw [if_neg (fun w => q5 ((nI_eq (by omega) (by omega)).mp w))]
    obtain ⟨g3, u1, u2, u3⟩ := e_unpack d2 I (e := x.2.2.2 + 1 + 2 + sz) (w := W) (by omega) (by omega) hW384 r s
    rw [u1, Option.bind_some]
    rw [px2] at u2 u3
    have eco : co_rd b x2.2.2.2 (x2.2.2.2 + sz) W r s = ((pa_upk 384 b (x.2.2.2 + 1 + 2) (x.2.2.2 + 1 + 2 + sz) W s r).1, (pa_upk 384 b (x.2.2.2 + 1 + 2) (x.2.2.2 + 1 + 2 + sz) W s r).2.2, (pa_upk 384 b (x.2.2.2 + 1 + 2) (x.2.2.2 + 1 + 2 + sz) W s r).2.1) := by
      unfold co_rd
      rw [if_pos (by omega), px2]
    obtain ⟨U, hU⟩ : ∃ U, U = pa_upk 384 b (x.2.2.2 + 1 + 2) (x.2.2.2 + 1 + 2 + sz) W s r := ⟨_, rfl⟩
    rw [← hU] at u2 u3 eco
    by_cases q6 : U.1 = -2
    · obtain ⟨v1', v2, v3, v4, v5, v6, v7⟩ := u2 q6
      have cur : U.2.2.2.1 = 0 := by
        have := co_rd_cu (b := b) (x := x2.2.2.2) (e := x2.2.2.2 + sz) (w := W) (r := r) (s := s) (by omega) (by rw [eco]; exact q6)
        rw [eco] at this
        exact this
      have R3 : RS g3 p k := RS_of R2 v2
      have S3 : SE p (g3.2 8) := by rw [v2.2 8 (by omega) (by omega), hS2]; exact hS
      have eco2 : co_rd b x2.2.2.2 (x2.2.2.2 + sz) W r s = (-2, U.2.2, U.2.1) := by rw [eco, q6]
      rw [if_pos (by rw [v4]; decide), R3.2.2.2.1]
      by_cases q7 : k = 3
      · rw [if_pos (show nI k = 3 by rw [q7]; rfl)]
        have R33 : RS g3 p 3 := by rw [← q7]; exact R3
        obtain ⟨f2, t2', n2, s1, s2, s3⟩ := e_unwaves v5 v7 (by omega) h4 (hy q7) R33 G (by rw [← q7]; exact he) S3 cur (by rw [v6, hW, q7]; exact Nat.le_refl _) (hz.ZC G hln) f
        have etk : (tk_rd y0 k (sz < W) (f, U.2.2, p)).2.2 = (tt_s y0 (f, U.2.2, p)).2.2 := by
          unfold tk_rd
          rw [if_pos ⟨hlt, q7⟩]
        have := fin (mo_sc (mo_tb g3 t2') n2 f2) U.2.2 U.2.1 f ((v1'.tr FD.tb).tr FD.sc) (v3.trans d2.2.1) v4 R3 (by rw [etk]; exact s1) (by rw [etk]; exact s2) eco2
        rw [s3, Option.bind_some]
        exact this
      · rw [if_neg (show ¬ nI k = 3 from fun w => q7 (by rw [show (3 : Int32) = nI 3 from rfl, nI_eq (by omega) (by omega)] at w; exact w))]
        unfold j_readChunk_219
        have scat : ∀ (df : Nat), (df = 0 ∨ df = 1 ∧ k = 2) → df = (if k = 2 then 1 else 0) → ∃ g', ((r_scatter (nI y0) (nI ln) (nI df) g3).bind (fun z5 => j_readChunk_222 (nI y0) (nI ln) (nI x.2.2.2) (nI (x.2.2.2 + 1 + 2 + sz)) z5)) = some g' ∧ ((rd_ck b y0 x f r s p).1 = true → RR g0 g' (rd_ck b y0 x f r s p).2.1 ∧ RS g' (rd_ck b y0 x f r s p).2.2.2.2.2 k ∧ SE (rd_ck b y0 x f r s p).2.2.2.2.2 (g'.2 8) ∧ pi_sm p (rd_ck b y0 x f r s p).2.2.2.2.2 ∧ ZI (rd_ck b y0 x f r s p).2.2.2.2.2 (y0 + ln) ∧ (rd_ck b y0 x f r s p).2.1.2.2.2 ≤ b.1 ∧ (rd_ck b y0 x f r s p).2.1.2.2.1 = k) ∧ ((rd_ck b y0 x f r s p).1 = false → BD g0 g' (rd_ck b y0 x f r s p).2.1) := by
          intro df hdf hd
          obtain ⟨f2, n2, s1, s2, s3⟩ := e_scatter (g := g3) (r0 := U.2.2) (y0 := y0) (ln := ln) (k := k) (df := df) v5 v7 (by omega) hdf hk (p := p) R3 G hln S3 cur (by rw [v6, hW]; exact Nat.le_refl _)
          have etk : (tk_rd y0 k (sz < W) (f, U.2.2, p)).2.2 = (tk_lnY k (nI df) ln y0 (U.2.2, p)).2 := by
            unfold tk_rd
            rw [if_neg (fun w => q7 w.2)]
            show (tk_lns y0 k (if sz < W ∧ k = 2 then 1 else 0) U.2.2 p).2 = _
            have ed : (if sz < W ∧ k = 2 then (1 : Int32) else 0) = nI df := by
              rw [hd]
              by_cases z : k = 2
              · rw [if_pos ⟨hlt, z⟩, if_pos z]
                rfl
              · rw [if_neg (fun w => z w.2), if_neg z]
                rfl
            rw [ed]
            unfold tk_lns
            rw [he, Nat.add_sub_cancel_left]
          have := fin (mo_sc g3 n2 f2) U.2.2 U.2.1 f (v1'.tr FD.sc) (v3.trans d2.2.1) v4 R3 (by rw [etk]; exact s1) (by rw [etk]; exact ch_lnY k (nI df) ln y0 U.2.2 p G) eco2
          rw [s3, Option.bind_some]
          exact this
        by_cases q8 : k = 2
        · rw [if_pos (show nI k = 2 by rw [q8]; rfl)]
          exact scat 1 (Or.inr ⟨rfl, q8⟩) (by rw [if_pos q8])
        · rw [if_neg (show ¬ nI k = 2 from fun w => q8 (by rw [show (2 : Int32) = nI 2 from rfl, nI_eq (by omega) (by omega)] at w; exact w))]
          exact scat 0 (Or.inl rfl) (by rw [if_neg q8])
    · have B := u3 q6
      have e0 : rd_ck b y0 x f r s p = (false, rd_fl x2 U.1, f, U.2.2, U.2.1, p) := by
        rw [cB]
        unfold rd_ckB
        rw [eco, if_neg q6]
      refine hF B e0 ?_
      rw [if_neg B.pos.1]
