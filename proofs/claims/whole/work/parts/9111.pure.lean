def mo_fl (g : mo_G) (n : Nat) (f : Nat → Int32) : mo_G := (upd g.1 3 (nI n), mo_uA g.2 4 f)
def by_ex (b : by_B) (f : Nat → Int32) (lo hi : Nat) : Prop := ∀ k, k < b.1 → (k < lo ∨ hi ≤ k) → f k = b.2.2 k
set_option maxRecDepth 10000 in
set_option maxHeartbeats 2000000 in
theorem by_ex_add {N : Nat} {b : by_B} {f : Nat → Int32} {x y : Int32} {lo hi : Nat} (h : by_ex b f lo hi) (hn : b.1 < N) (e : x &&& 255 = y) : by_ex (by_add N b x) (upd f b.1 y) lo hi := by
  subst e
  unfold by_add
  rw [if_pos hn]
  intro k hk hq
  change k < b.1 + 1 at hk
  show upd f b.1 (x &&& 255) k = upd b.2.2 b.1 (x &&& 255) k
  by_cases q : k = b.1
  · rw [q, ux_s, ux_s]
  · rw [ux_n q, ux_n q]
    exact h k (by omega) hq
set_option maxRecDepth 10000 in
set_option maxHeartbeats 2000000 in
theorem mo_ff {g : mo_G} {n m : Nat} {f k : Nat → Int32} : mo_fl (mo_fl g n f) m k = mo_fl g m k := by
  unfold mo_fl
  simp only [ux, uA]
set_option maxRecDepth 10000 in
set_option maxHeartbeats 2000000 in
theorem RP.fl {g : mo_G} {p : pi_P} {n : Nat} {f : Nat → Int32} (h : RP g p) : RP (mo_fl g n f) p := h
set_option maxRecDepth 10000 in
set_option maxHeartbeats 2000000 in
theorem RP.pk {g : mo_G} {p : pi_P} {n : Nat} {f : Nat → Int32} (h : RP g p) : RP (mo_pk g n f) p := h
set_option maxRecDepth 10000 in
set_option maxHeartbeats 2000000 in
theorem e_write {g : mo_G} {n : Nat} {f : Nat → Int32} {x : Int32} (hn : n < 1500) : r_write x (mo_fl g n f) = some (mo_fl g (n + 1) (upd f n x)) := by
  show og (vp_in (nI n) 1500) (some (upd (upd g.1 3 (nI n)) 3 (nI n + 1), mo_uA (mo_uA g.2 4 f) 4 (upd f (nI n).toNatClampNeg x))) = _
  rw [og_t (vp_in_nI hn (by decide)), nI_clamp (by omega), nI_1, ux, uA]
  rfl
set_option maxRecDepth 10000 in
set_option maxHeartbeats 2000000 in
theorem e_c129 {K : mo_G → Option mo_G} {g : mo_G} {md : by_B} {x6 : Int32} (hm : md.1 ≤ 400) (hs : by_eq md (if x6 = 0 then g.2 10 else g.2 9)) (ok : by_ok md) {lo hi : Nat} : ∀ (j i N : Nat) (b : by_B) (f : Nat → Int32), by_ex b f lo hi → i + j = md.1 → b.1 + j ≤ 1500 → j < N → ∃ f', by_ex (by_addP 1500 md j i b) f' lo hi ∧ (by_addP 1500 md j i b).1 = b.1 + j ∧ l_chunk_129 K N x6 (nI md.1) (nI i) (mo_fl g b.1 f) = K (mo_fl g (b.1 + j) f') := by
  intro j
  induction j with
  | zero =>
    intro i N b f hf hi hb hN
    obtain ⟨N, rfl⟩ : ∃ m, N = m + 1 := ⟨N - 1, by omega⟩
    refine ⟨f, hf, rfl, ?_⟩
    rw [l_chunk_129, if_pos (nI_le (by omega) (by omega))]
    rfl
  | succ j ih =>
    intro i N b f hf hi hb hN
    obtain ⟨N, rfl⟩ : ∃ m, N = m + 1 := ⟨N - 1, by omega⟩
    have hin : i < md.1 := by omega
    obtain ⟨f', h1, h2, h3⟩ := ih (i + 1) N (by_add 1500 b (by_get md (nI i))) _ (by_ex_add hf (by omega) (show by_get md (nI i) &&& 255 = md.2.2 i by rw [by_get_at hin (by omega)]; exact ok.at2 hin)) (by omega) (by rw [by_add_1 (by omega)]; omega) (by omega)
    rw [by_add_1 (by omega)] at h2 h3
    refine ⟨f', h1, by show (by_addP 1500 md j (i + 1) _).1 = _; rw [h2]; omega, ?_⟩
    rw [l_chunk_129, if_neg (nI_ge (by omega) (by omega)), nI_clamp (by omega)]
    unfold j_chunk_159
    rw [show b.1 + (j + 1) = b.1 + 1 + j by omega, ← h3]
    have hv := hs i hin
    by_cases q : x6 = 0
    · rw [if_pos q] at hv ⊢
      rw [og_t (vp_in_nI (by omega) (by decide)), show (mo_fl g b.1 f).2 10 i = g.2 10 i from rfl, hv, e_write (by omega), Option.bind_some, nI_1]
    · rw [if_neg q] at hv ⊢
      rw [og_t (vp_in_nI (by omega) (by decide)), show (mo_fl g b.1 f).2 9 i = g.2 9 i from rfl, hv, e_write (by omega), Option.bind_some, nI_1]
def Fr (g g' : mo_G) : Prop := (∀ k, k < 6 → k ≠ 3 → g'.1 k = g.1 k) ∧ ∀ j, j < 4 → g'.2 j = g.2 j
set_option maxRecDepth 10000 in
set_option maxHeartbeats 2000000 in
theorem Fr.rfl {g : mo_G} : Fr g g := ⟨fun _ _ _ => Eq.refl _, fun _ _ => Eq.refl _⟩
set_option maxRecDepth 10000 in
set_option maxHeartbeats 2000000 in
theorem Fr.tr {g g1 g2 : mo_G} (h : Fr g g1) (k : Fr g1 g2) : Fr g g2 := ⟨fun i h1 h2 => (k.1 i h1 h2).trans (h.1 i h1 h2), fun j hj => (k.2 j hj).trans (h.2 j hj)⟩
set_option maxRecDepth 10000 in
set_option maxHeartbeats 2000000 in
theorem Fr.raw {g : mo_G} {n : Nat} {f : Nat → Int32} : Fr g (mo_raw g n f) := ⟨fun k h1 h2 => ux_n (by omega), fun j hj => uA_n (by omega)⟩
set_option maxRecDepth 10000 in
set_option maxHeartbeats 2000000 in
theorem Fr.pk {g : mo_G} {n : Nat} {f : Nat → Int32} : Fr g (mo_pk g n f) := ⟨fun k h1 h2 => ux_n (by omega), fun j hj => uA_n (by omega)⟩
set_option maxRecDepth 10000 in
set_option maxHeartbeats 2000000 in
theorem Fr.fl {g : mo_G} {n : Nat} {f : Nat → Int32} : Fr g (mo_fl g n f) := ⟨fun k h1 h2 => ux_n (by omega), fun j hj => uA_n (by omega)⟩
set_option maxRecDepth 10000 in
set_option maxHeartbeats 2000000 in
theorem Fr.tb {g : mo_G} {f : Nat → Int32} : Fr g (mo_tb g f) := ⟨fun k h1 h2 => Eq.refl _, fun j hj => uA_n (by omega)⟩
set_option maxRecDepth 10000 in
set_option maxHeartbeats 2000000 in
theorem Fr.RP {g g' : mo_G} {p : pi_P} (h : Fr g g') (R : RP g p) : RP g' p := by
  refine ⟨(h.1 0 (by omega) (by omega)).trans R.1, (h.1 1 (by omega) (by omega)).trans R.2.1, (h.1 2 (by omega) (by omega)).trans R.2.2.1, fun c hc => ?_, fun k hk => ?_⟩
  · rw [h.2 0 (by omega), h.2 1 (by omega), h.2 2 (by omega)]
    exact R.2.2.2.1 c hc
  · rw [h.2 3 (by omega)]
    exact R.2.2.2.2 k hk
def FX (g : mo_G) (b : by_B) (lo hi : Nat) : Prop := g.1 3 = nI b.1 ∧ by_ex b (g.2 4) lo hi
set_option maxRecDepth 10000 in
set_option maxHeartbeats 2000000 in
theorem fl_id {g : mo_G} {n : Nat} (h : g.1 3 = nI n) : mo_fl g n (g.2 4) = g := by
  unfold mo_fl
  refine Prod.ext ?_ ?_
  · funext i
    show upd g.1 3 (nI n) i = g.1 i
    by_cases q : i = 3
    · rw [q, ux_s, h]
    · exact ux_n q
  · funext i
    show mo_uA g.2 4 (g.2 4) i = g.2 i
    by_cases q : i = 4
    · rw [q, uA_s]
    · exact uA_n q
set_option maxRecDepth 10000 in
set_option maxHeartbeats 2000000 in
theorem sh8 {n : Nat} (h : n < 65536) : nI n >>> (8 &&& 31) = nI (n / 256) ∧ mj_ush (nI n) (8 * nI 1) &&& 255 = nI (n / 256) := by
  have e1 : nI n >>> (8 &&& 31) = nI (n / 256) := pk_shrN (by omega) _ 8 (by decide)
  refine ⟨e1, ?_⟩
  have := sh_8 (nI n) (i := 1) (by omega)
  rw [← this]
  show (nI n >>> (8 &&& 31)) &&& 255 = _
  rw [e1, b255 (by omega)]
set_option maxRecDepth 10000 in
set_option maxHeartbeats 2000000 in
theorem sh0 {n : Nat} : mj_ush (nI n) (8 * nI 0) &&& 255 = nI n &&& 255 := by
  have := sh_8 (nI n) (i := 0) (by omega)
  rw [← this]
  show (nI n >>> (0 : Int32)) &&& 255 = _
  rw [show nI n >>> (0 : Int32) = nI n by apply Int32.toBitVec_inj.mp; exact BitVec.sshiftRight_zero]
set_option maxRecDepth 10000 in
set_option maxHeartbeats 2000000 in
theorem e_c100 {g : mo_G} {md b : by_B} {x6 : Int32} {y lo hi : Nat} (hm : md.1 ≤ 400) (hs : by_eq md (if x6 = 0 then g.2 10 else g.2 9)) (ok : by_ok md) (hy : y < 256) (hg : FX g b lo hi) (hb : b.1 + 403 ≤ 1500) : ∃ f', by_ex (wr_b5 y md b) f' lo hi ∧ (wr_b5 y md b).1 = b.1 + 3 + md.1 ∧ j_chunk_100 (nI y) x6 (nI md.1) g = some (mo_fl g (wr_b5 y md b).1 f') := by
  unfold j_chunk_100
  have e3 := sh8 (n := md.1) (by omega)
  have E1 : by_ex (by_add 1500 b (nI y)) (upd (g.2 4) b.1 (nI y)) lo hi := by_ex_add hg.2 (by omega) (b255 hy)
  have E2 : by_ex (by_add 1500 (by_add 1500 b (nI y)) (mj_ush (nI md.1) (8 * nI 0))) _ lo hi := by_ex_add E1 (by rw [by_add_1 (by omega)]; omega) sh0
  have L1 : (by_add 1500 b (nI y)).1 = b.1 + 1 := by_add_1 (by omega)
  have L2 : (by_add 1500 (by_add 1500 b (nI y)) (mj_ush (nI md.1) (8 * nI 0))).1 = b.1 + 2 := by rw [by_add_1 (by omega), L1]
  have E3 : by_ex (by_add 1500 (by_add 1500 (by_add 1500 b (nI y)) (mj_ush (nI md.1) (8 * nI 0))) (mj_ush (nI md.1) (8 * nI 1))) _ lo hi := by_ex_add E2 (by omega) e3.2
  have L3 : (by_add 1500 (by_add 1500 (by_add 1500 b (nI y)) (mj_ush (nI md.1) (8 * nI 0))) (mj_ush (nI md.1) (8 * nI 1))).1 = b.1 + 3 := by rw [by_add_1 (by omega), L2]
  obtain ⟨f', h1, h2, h3⟩ := e_c129 (K := fun g9 => some g9) (g := g) hm hs ok md.1 0 2000 _ _ E3 (by omega) (by omega) (by omega)
  rw [L3] at h2 h3
  have e5 : (wr_b5 y md b) = by_addP 1500 md md.1 0 (by_add 1500 (by_add 1500 (by_add 1500 b (nI y)) (mj_ush (nI md.1) (8 * nI 0))) (mj_ush (nI md.1) (8 * nI 1))) := rfl
  refine ⟨f', h1, by rw [e5, h2], ?_⟩
  rw [e5, h2, ← h3]
  have w1 : r_write (nI y) g = some (mo_fl g (b.1 + 1) (upd (g.2 4) b.1 (nI y))) := by
    have := e_write (g := g) (n := b.1) (f := g.2 4) (x := nI y) (by omega)
    rw [fl_id hg.1] at this
    exact this
  rw [w1, Option.bind_some, e_write (by omega), Option.bind_some, e3.1, e_write (by omega), Option.bind_some, L1, L2]
  rfl
set_option maxRecDepth 10000 in
set_option maxHeartbeats 2000000 in
theorem by_ok_run (N : Nat) (d : by_B) : ∀ (m pl : Nat) (t : by_B), by_ok t → by_ok (pa_run N d m pl t)
  | 0, _, _, h => h
  | m + 1, pl, t, h => by
    unfold pa_run
    split
    · split
      · exact by_ok_run N d m _ _ (by_ok_add _ (by_ok_add _ h))
      · exact by_ok_run N d m _ _ (by_ok_addP _ _ _ _ _ (by_ok_add _ h))
    · exact h
set_option maxRecDepth 10000 in
set_option maxHeartbeats 2000000 in
theorem e_chunk {g : mo_G} {p : pi_P} (R : RP g p) (G : GP p) {k y0 ln lo hi : Nat} (hk : k < 4) (he : pi_end p y0 k = y0 + ln) (h4 : ln ≤ 4) (hy : k = 3 → y0 % 2 = 0) (hy8 : y0 < 8) (f : Nat → Int32) (r s q b : by_B) (hg : FX g b lo hi) (hb : b.1 + 403 ≤ 1500) : ∃ g', r_chunk (nI k) (nI y0) (nI ln) g = some g' ∧ Fr g g' ∧ FX g' (wr_b5 y0 (wr_md (co_mk2 p k y0 (co_mk1 p k y0 f r).2 s q)) b) lo hi ∧ (wr_b5 y0 (wr_md (co_mk2 p k y0 (co_mk1 p k y0 f r).2 s q)) b).1 ≤ b.1 + 3 + 96 * ln ∧ b.1 ≤ (wr_b5 y0 (wr_md (co_mk2 p k y0 (co_mk1 p k y0 f r).2 s q)) b).1 := by
  have hl : y0 + ln ≤ p.2.1 := by rw [← he]; exact pi_end_le _ _ _
  have hlns : ∀ (df : Int32) (r : by_B), co_lns p y0 k df r = co_lnY p k df ln y0 (0, 0, r.2.2) := fun df r => by unfold co_lns; rw [he, Nat.add_sub_cancel_left]
  have hlen : ∀ (df : Int32) (r : by_B), (co_lnY p k df ln y0 (0, 0, r.2.2)).1 = pi_rwY p k ln y0 0 := fun df r => lnY_len p G k df ln y0 (0, 0, r.2.2) (by show 0 + _ ≤ _; omega)
  have mk1 : (co_mk1 p k y0 f r).2 = if k = 3 then (co_tbs p y0 f r).2 else co_lnY p k (if k = 2 then 1 else 0) ln y0 (0, 0, r.2.2) := by
    unfold co_mk1
    split
    · rfl
    · exact hlns _ _
  obtain ⟨m, hm, hm0⟩ : ∃ m : Nat, (m = 0 ∧ ¬ k = 2 ∨ (m = 1 ∨ m = 2) ∧ k = 2) ∧ m = if k = 2 then 1 else 0 := by
    by_cases z : k = 2
    · exact ⟨1, Or.inr ⟨Or.inl rfl, z⟩, by rw [if_pos z]⟩
    · exact ⟨0, Or.inl ⟨rfl, z⟩, by rw [if_neg z]⟩
  have md0 : (0 : Int32) = if m = 2 then 1 else 0 := by rw [if_neg (by rw [hm0]; split <;> omega)]
  obtain ⟨f1, a1, a2, a3⟩ := e_gather R G (k := k) (m := m) hl h4 hm md0 r
  have key : ∃ g2 : mo_G, Fr g g2 ∧ g2.1 3 = g.1 3 ∧ g2.2 4 = g.2 4 ∧ g2.1 6 = nI (co_mk1 p k y0 f r).2.1 ∧ by_eq (co_mk1 p k y0 f r).2 (g2.2 9) ∧ by_ok (co_mk1 p k y0 f r).2 ∧ (co_mk1 p k y0 f r).2.1 = pi_rwY p k ln y0 0 ∧ (co_mk1 p k y0 f r).2.1 ≤ 384 ∧ r_chunk (nI k) (nI y0) (nI ln) g = j_chunk_49 (nI k) (nI y0) (nI ln) (nI m) (nI (pi_rwY p k ln y0 0)) g2 := by
    have e0 : r_chunk (nI k) (nI y0) (nI ln) g = j_chunk_10 (nI k) (nI y0) (nI ln) (nI m) g := by
      unfold r_chunk
      rw [hm0]
      by_cases z : k = 2
      · rw [if_pos (by rw [z]; rfl), if_pos z]
        rfl
      · rw [if_neg (fun w => z (by rw [show (2 : Int32) = nI 2 from rfl, nI_eq (by omega) (by omega)] at w; exact w)), if_neg z]
        rfl
    have e1 : ∀ (n : Nat) (f : Nat → Int32), (mo_raw g n f).1 6 = nI n := fun _ _ => rfl
    rw [e0]
    unfold j_chunk_10 j_chunk_38
    rw [a3, Option.bind_some, e1, hlen 0 r]
    rw [mk1]
    by_cases z : k = 2
    · have n3 : ¬ k = 3 := by omega
      rw [if_neg n3, if_pos z]
      obtain ⟨f2, b1, b2, b3⟩ := e_gather (R.raw (n := pi_rwY p k ln y0 0) (f := f1)) G (k := k) (m := 2) hl h4 (Or.inr ⟨Or.inr rfl, z⟩) (df := 1) rfl r
      rw [mo_rr] at b3
      refine ⟨_, Fr.raw, rfl, rfl, rfl, b1, by_ok_lnY _ _ _ _ _ _ (by_ok_0 _ _), hlen _ _, b2, ?_⟩
      rw [if_pos (show nI k = 2 by rw [z]; rfl), show (2 : Int32) = nI 2 from rfl, b3, Option.bind_some, if_neg (show ¬ nI k = 3 by rw [z]; decide)]
    · have z2 : ¬ nI k = 2 := fun w => z (by rw [show (2 : Int32) = nI 2 from rfl, nI_eq (by omega) (by omega)] at w; exact w)
      rw [if_neg z2]
      by_cases z3 : k = 3
      · rw [if_pos z3, if_pos (show nI k = 3 by rw [z3]; rfl)]
        obtain ⟨f2, t2, b1, b2, b3⟩ := e_waves (R.raw (n := pi_rwY p k ln y0 0) (f := f1)) G (y0 := y0) (ln := ln) (by rw [← z3]; exact he) h4 (hy z3) f r
        rw [mo_rr] at b3
        refine ⟨mo_tb (mo_raw g (co_tbs p y0 f r).2.1 f2) t2, Fr.tr Fr.raw Fr.tb, rfl, rfl, rfl, b1, by_ok_tbC _ _ _ _ _ (by_ok_0 _ _), ?_, b2, ?_⟩
        · show (co_tbC p y0 p.2.2.1 0 (f, (0, 0, r.2.2))).2.1 = _
          rw [tbC_len p G y0 ln (by rw [← z3]; exact he) _ _ _ (by show 0 + _ ≤ _; have := G.2.2.1; omega), raw_ws p k y0 ln (hy z3), z3]
          show 0 + _ = _
          omega
        · rw [b3, Option.bind_some]
      · rw [if_neg z3, if_neg (show ¬ nI k = 3 from fun w => z3 (by rw [show (3 : Int32) = nI 3 from rfl, nI_eq (by omega) (by omega)] at w; exact w)), if_neg z]
        refine ⟨_, Fr.raw, rfl, rfl, rfl, a1, by_ok_lnY _ _ _ _ _ _ (by_ok_0 _ _), hlen _ _, a2, ?_⟩
        rw [hlen 0 r]
  obtain ⟨g2, k1, k2, k3, k4, k5, k6, k7, k8, k9⟩ := key
  rw [k9]
  obtain ⟨fq, p1, p2, p3⟩ := e_pack k4 k5 k6 k8 s q
  unfold j_chunk_49 j_chunk_66
  rw [p3, Option.bind_some, show (mo_pk g2 (pa_pk 400 (co_mk1 p k y0 f r).2 s q).1 fq).1 7 = nI (pa_pk 400 (co_mk1 p k y0 f r).2 s q).1 from rfl]
  have hw96 : pi_rwY p k ln y0 0 ≤ 0 + 96 * ln := pi_rwY_le p k ⟨G.1.2, G.2.1.2, G.2.2.1⟩ ln y0 0
  have hw384 : pi_rwY p k ln y0 0 ≤ 384 := by rw [← k7]; exact k8
  have R2 : RP (mo_pk g2 (pa_pk 400 (co_mk1 p k y0 f r).2 s q).1 fq) p := (k1.RP R).pk
  have plain : ∀ r' : by_B, ∃ g', j_chunk_71 (nI y0) (nI ln) (nI m) (nI (pi_rwY p k ln y0 0)) 1 (mo_pk g2 (pa_pk 400 (co_mk1 p k y0 f r).2 s q).1 fq) = some g' ∧ Fr g g' ∧ FX g' (wr_b5 y0 (co_lnY p k 0 ln y0 (0, 0, r'.2.2)) b) lo hi ∧ (wr_b5 y0 (co_lnY p k 0 ln y0 (0, 0, r'.2.2)) b).1 ≤ b.1 + 3 + 96 * ln ∧ b.1 ≤ (wr_b5 y0 (co_lnY p k 0 ln y0 (0, 0, r'.2.2)) b).1 := by
    intro r'
    obtain ⟨f4, c1, c2, c3⟩ := e_gather R2 G (k := k) (m := m) hl h4 hm md0 r'
    unfold j_chunk_71 j_chunk_86
    rw [if_neg (by decide), c3, Option.bind_some, if_neg (by decide), ← hlen 0 r']
    obtain ⟨f5, d1, d2, d3⟩ := e_c100 (x6 := 1) (y := y0) (md := co_lnY p k 0 ln y0 (0, 0, r'.2.2)) (b := b) (lo := lo) (hi := hi) (g := mo_raw (mo_pk g2 (pa_pk 400 (co_mk1 p k y0 f r).2 s q).1 fq) (co_lnY p k 0 ln y0 (0, 0, r'.2.2)).1 f4) (by omega) (by rw [if_neg (by decide)]; exact c1) (by_ok_lnY _ _ _ _ _ _ (by_ok_0 _ _)) (by omega) ⟨k2.trans hg.1, by show by_ex b (g2.2 4) lo hi; rw [k3]; exact hg.2⟩ hb
    refine ⟨_, d3, Fr.tr k1 (Fr.tr Fr.pk (Fr.tr Fr.raw Fr.fl)), ⟨rfl, d1⟩, by rw [d2, hlen 0 r']; omega, by rw [d2]; omega⟩
  by_cases z0 : k = 0
  · rw [if_pos (show nI k = 0 by rw [z0]; rfl)]
    have e : wr_md (co_mk2 p k y0 (co_mk1 p k y0 f r).2 s q) = co_lnY p k 0 ln y0 (0, 0, r.2.2) := by
      have e2 : co_mk2 p k y0 (co_mk1 p k y0 f r).2 s q = (4, (co_mk1 p k y0 f r).2, s, q) := if_pos z0
      rw [e2]
      show (co_mk1 p k y0 f r).2 = _
      rw [mk1, if_neg (by omega), if_neg (by omega)]
    rw [e]
    exact plain r
  · rw [if_neg (show ¬ nI k = 0 from nI_ne0 (by omega) (by omega))]
    by_cases z1 : (pa_pk 400 (co_mk1 p k y0 f r).2 s q).1 < pi_rwY p k ln y0 0
    · rw [if_pos (nI_lt z1 (by omega))]
      have e : wr_md (co_mk2 p k y0 (co_mk1 p k y0 f r).2 s q) = pa_pk 400 (co_mk1 p k y0 f r).2 s q := by
        have e2 : co_mk2 p k y0 (co_mk1 p k y0 f r).2 s q = (6, (co_mk1 p k y0 f r).2, pa_ds (co_mk1 p k y0 f r).2 s, pa_pk 400 (co_mk1 p k y0 f r).2 s q) := (if_neg z0).trans (if_pos (by rw [k7]; exact z1))
        rw [e2]
        rfl
      rw [e]
      unfold j_chunk_71 j_chunk_86
      rw [if_pos rfl, if_pos rfl]
      obtain ⟨f5, d1, d2, d3⟩ := e_c100 (x6 := 0) (y := y0) (md := pa_pk 400 (co_mk1 p k y0 f r).2 s q) (b := b) (lo := lo) (hi := hi) (g := mo_pk g2 (pa_pk 400 (co_mk1 p k y0 f r).2 s q).1 fq) p2 (by rw [if_pos rfl]; exact p1) (by_ok_run _ _ _ _ _ (by_ok_0 _ _)) (by omega) ⟨k2.trans hg.1, by show by_ex b (g2.2 4) lo hi; rw [k3]; exact hg.2⟩ hb
      exact ⟨_, d3, Fr.tr k1 (Fr.tr Fr.pk Fr.fl), ⟨rfl, d1⟩, by rw [d2]; omega, by rw [d2]; omega⟩
    · rw [if_neg (nI_nlt (by omega) (by omega))]
      have e : wr_md (co_mk2 p k y0 (co_mk1 p k y0 f r).2 s q) = co_lnY p k 0 ln y0 (0, 0, (co_mk1 p k y0 f r).2.2.2) := by
        have e2 : co_mk2 p k y0 (co_mk1 p k y0 f r).2 s q = (4, co_lns p y0 k 0 (co_mk1 p k y0 f r).2, pa_ds (co_mk1 p k y0 f r).2 s, pa_pk 400 (co_mk1 p k y0 f r).2 s q) := (if_neg z0).trans (if_neg (by rw [k7]; exact z1))
        rw [e2]
        exact hlns _ _
      rw [e]
      exact plain _
