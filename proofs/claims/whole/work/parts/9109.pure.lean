set_option maxRecDepth 10000 in
set_option maxHeartbeats 2000000 in
theorem e_w63 {K : Int32 → Int32 → Int32 → mo_G → Option mo_G} {bk : Int32 → Int32 → Int32 → Int32 → Int32 → Int32 → mo_G → Option mo_G} {g : mo_G} {p : pi_P} (R : RP g p) (G : GP p) {c y0 ln hf lim : Nat} (hc : c < p.2.2.1) (he : pi_end p y0 3 = y0 + ln) (h4 : ln ≤ 4) (hy : y0 % 2 = 0) (hh : hf < lim) (hl2 : lim ≤ 2) (b : by_B) (f fr ft : Nat → Int32) (hf1 : by_eq b fr) (hb : b.1 + 64 ≤ 384) : ∃ fr' ft', by_eq (tb_r p c y0 (16 * hf) f b) fr' ∧ (tb_r p c y0 (16 * hf) f b).1 ≤ b.1 + 64 ∧ j_waves_63 K bk (nI y0) (nI ln) (nI c) (nI (pi_nx p c)) (nI (pi_ny p c y0)) (nI hf) (nI lim) (nI hf) (mo_tb (mo_raw g b.1 fr) ft) = bk (nI y0) (nI ln) (nI c) (nI (pi_nx p c)) (nI (pi_ny p c y0)) (nI (hf + 1)) (mo_tb (mo_raw g (tb_r p c y0 (16 * hf) f b).1 fr') ft') := by
  have hl : y0 + ln ≤ p.2.1 := by rw [← he]; exact pi_end_le _ _ _
  have hy8 := G.2.1.2
  have eny : pi_ny p c y0 = pi_on p c ln := by unfold pi_ny; rw [he, Nat.add_sub_cancel_left]
  have hny : pi_ny p c y0 ≤ 4 := pi_ny_le _ _ _
  have hnx : pi_nx p c ≤ 8 := pi_nx_le _ _ G.1.2
  unfold j_waves_63
  rw [if_neg (nI_ge hh (by omega))]
  have z0 : pi_on p c 0 = 0 := by rcases st12 p c with ⟨_, z⟩ | ⟨_, z⟩ <;> rw [z]
  obtain ⟨f1, h1, h2⟩ := e_w72 (K := fun y21 y22 y23 y24 y25 y26 g20 => l_waves_170 (fun y30 y31 y32 y33 y34 y35 g29 => l_waves_206 (fun y47 y48 y49 y50 y51 y52 g46 => bk y47 y48 y49 y50 y51 (y52 + 1) g46) 2000 y30 y31 y32 y33 y34 y35 0 g29) 2000 y21 y22 y23 y24 y25 y26 1 g20) (R.raw (n := b.1) (f := fr)) G (c := c) (y0 := y0) (ln := ln) (hf := hf) (a5 := nI (pi_ny p c y0)) hc hl hy ln 0 2000 ft (by omega) (by omega) (by rw [z0]; intro row hr; omega)
  rw [z0, nI_0, Nat.add_zero] at h1
  have hT : T_eq (pi_nx p c) (pi_ny p c y0) (tb_fy p c y0 (16 * hf) (pi_nx p c) (pi_ny p c y0) 0 f) f1 := by
    intro row hr x hx
    rw [h2 row (by rw [← eny]; exact hr) x hx, (tb_fy_at p c y0 (16 * hf) (pi_nx p c) hnx (pi_ny p c y0) 0 f).2 row (by omega) (by omega) x hx, Nat.mul_comm x]
    exact sv_ush _ (by omega)
  obtain ⟨f2, h3, h5⟩ := e_w170 (K := fun y30 y31 y32 y33 y34 y35 g29 => l_waves_206 (fun y47 y48 y49 y50 y51 y52 g46 => bk y47 y48 y49 y50 y51 (y52 + 1) g46) 2000 y30 y31 y32 y33 y34 y35 0 g29) (g := mo_raw g b.1 fr) (a1 := nI y0) (a2 := nI ln) (a3 := nI c) (a6 := nI hf) hnx (by omega) 8 1 2000 _ f1 hT (by omega) (by omega) (by omega) (by omega)
  obtain ⟨f3, h6, h7, h8⟩ := e_w206 (K := fun y47 y48 y49 y50 y51 y52 g46 => bk y47 y48 y49 y50 y51 (y52 + 1) g46) (g := g) (a1 := nI y0) (a2 := nI ln) (a3 := nI c) (a6 := nI hf) hnx (by omega) h5 (pi_ny p c y0) 0 2000 b fr hf1 (by omega) (by omega) (by omega)
  refine ⟨f3, f2, h6, Nat.le_trans h7 (by omega), ?_⟩
  refine h1.trans (Eq.trans ?_ (h8.trans ?_))
  · rw [mo_tr] at h3
    rw [mo_tr]
    refine Eq.trans h3 ?_
    rw [mo_tr]
    rfl
  · rw [nI_1, mo_tr]
    rfl
set_option maxRecDepth 10000 in
set_option maxHeartbeats 2000000 in
theorem e_w46 {K : Int32 → Int32 → Int32 → mo_G → Option mo_G} {g : mo_G} {p : pi_P} (R : RP g p) (G : GP p) {c y0 ln : Nat} (hc : c < p.2.2.1) (he : pi_end p y0 3 = y0 + ln) (h4 : ln ≤ 4) (hy : y0 % 2 = 0) (b : by_B) (f fr ft : Nat → Int32) (hf1 : by_eq b fr) (hb : b.1 + 128 ≤ 384) : ∃ fr' ft', by_eq (co_tbC p y0 1 c (f, b)).2 fr' ∧ (co_tbC p y0 1 c (f, b)).2.1 ≤ b.1 + 128 ∧ l_waves_46 K 2000 (nI y0) (nI ln) (nI c) (nI (pi_nx p c)) (nI (pi_ny p c y0)) 0 (mo_tb (mo_raw g b.1 fr) ft) = K (nI y0) (nI ln) (nI c) (mo_tb (mo_raw g (co_tbC p y0 1 c (f, b)).2.1 fr') ft') := by
  have h3 := G.2.2.1
  have et : ∀ (n : Nat) (fr ft : Nat → Int32), (mo_tb (mo_raw g n fr) ft).2 1 c = p.2.2.2.2.1 c := fun n fr ft => (R.2.2.2.1 c hc).2.1
  have cc : (nI c).toNatClampNeg = c := nI_clamp (by omega)
  have gc := vp_in_nI (n := c) (N := 3) (by omega) (by decide)
  unfold co_tbC co_tbC
  by_cases q : p.2.2.2.2.1 c = 1
  · rw [if_pos q]
    obtain ⟨f1, t1, h1, h2, h5⟩ := e_w63 (K := K) (bk := fun x1 x2 x3 x4 x5 x6 g => l_waves_46 K 1999 x1 x2 x3 x4 x5 x6 g) R G (hf := 0) (lim := 2) hc he h4 hy (by omega) (by omega) b f fr ft hf1 (by omega)
    obtain ⟨f2, t2, h6, h7, h8⟩ := e_w63 (K := K) (bk := fun x1 x2 x3 x4 x5 x6 g => l_waves_46 K 1998 x1 x2 x3 x4 x5 x6 g) R G (hf := 1) (lim := 2) hc he h4 hy (by omega) (by omega) (tb_r p c y0 0 f b) (tb_f p c y0 0 f) f1 t1 h1 (by rw [Nat.mul_zero] at h2; omega)
    rw [Nat.mul_zero] at h2 h5
    rw [Nat.mul_one] at h6 h7 h8
    refine ⟨f2, t2, h6, by show (tb_r p c y0 16 (tb_f p c y0 0 f) (tb_r p c y0 0 f b)).1 ≤ _; omega, ?_⟩
    rw [l_waves_46, og_t gc, cc, et, if_pos q]
    refine h5.trans ?_
    rw [l_waves_46, og_t gc, cc, et, if_pos q]
    refine h8.trans ?_
    rw [l_waves_46, og_t gc, cc, et, if_pos q]
    unfold j_waves_63
    rw [if_pos (by decide)]
  · rw [if_neg q]
    obtain ⟨f1, t1, h1, h2, h5⟩ := e_w63 (K := K) (bk := fun x1 x2 x3 x4 x5 x6 g => l_waves_46 K 1999 x1 x2 x3 x4 x5 x6 g) R G (hf := 0) (lim := 1) hc he h4 hy (by omega) (by omega) b f fr ft hf1 (by omega)
    rw [Nat.mul_zero] at h1 h2 h5
    refine ⟨f1, t1, h1, by show (tb_r p c y0 0 f b).1 ≤ _; omega, ?_⟩
    rw [l_waves_46, og_t gc, cc, et, if_neg q]
    refine h5.trans ?_
    rw [l_waves_46, og_t gc, cc, et, if_neg q]
    unfold j_waves_63
    rw [if_pos (by decide)]
set_option maxRecDepth 10000 in
set_option maxHeartbeats 2000000 in
theorem e_w7 {K : mo_G → Option mo_G} {g : mo_G} {p : pi_P} (R : RP g p) (G : GP p) {y0 ln : Nat} (he : pi_end p y0 3 = y0 + ln) (h4 : ln ≤ 4) (hy : y0 % 2 = 0) : ∀ (j c N : Nat) (b : by_B) (f fr ft : Nat → Int32), by_eq b fr → c + j = p.2.2.1 → b.1 + 128 * j ≤ 384 → j < N → ∃ fr' ft', by_eq (co_tbC p y0 j c (f, b)).2 fr' ∧ (co_tbC p y0 j c (f, b)).2.1 ≤ 384 ∧ l_waves_7 K N (nI y0) (nI ln) (nI c) (mo_tb (mo_raw g b.1 fr) ft) = K (mo_tb (mo_raw g (co_tbC p y0 j c (f, b)).2.1 fr') ft') := by
  have h3 := G.2.2.1
  have hl : y0 + ln ≤ p.2.1 := by rw [← he]; exact pi_end_le _ _ _
  have hy8 := G.2.1.2
  intro j
  induction j with
  | zero =>
    intro c N b f fr ft hf hc hb hN
    obtain ⟨N, rfl⟩ : ∃ m, N = m + 1 := ⟨N - 1, by omega⟩
    refine ⟨fr, ft, hf, by show b.1 ≤ _; omega, ?_⟩
    rw [l_waves_7, if_pos (by rw [show (mo_tb (mo_raw g b.1 fr) ft).1 2 = nI p.2.2.1 from R.2.2.1]; exact nI_le (by omega) (by omega))]
    rfl
  | succ j ih =>
    intro c N b f fr ft hf hc hb hN
    obtain ⟨N, rfl⟩ : ∃ m, N = m + 1 := ⟨N - 1, by omega⟩
    have hcc : c < p.2.2.1 := by omega
    have es : (mo_tb (mo_raw g b.1 fr) ft).2 2 c = nI (pi_st p c) := ((R.2.2.2.1 c hcc).2.2).trans (st_eq G hcc)
    have eny : pi_ny p c y0 = pi_on p c ln := by unfold pi_ny; rw [he, Nat.add_sub_cancel_left]
    obtain ⟨f1, t1, h1, h2, h5⟩ := e_w46 (K := fun y54 y55 y56 g53 => (fun x1 x2 x3 g => l_waves_7 K N x1 x2 x3 g) y54 y55 (y56 + 1) g53) R G hcc he h4 hy b f fr ft hf (by omega)
    have ec : co_tbC p y0 (j + 1) c (f, b) = co_tbC p y0 j (c + 1) ((co_tbC p y0 1 c (f, b)).1, (co_tbC p y0 1 c (f, b)).2) := rfl
    obtain ⟨f2, t2, h6, h7, h8⟩ := ih (c + 1) N (co_tbC p y0 1 c (f, b)).2 (co_tbC p y0 1 c (f, b)).1 f1 t1 h1 (by omega) (by omega) (by omega)
    refine ⟨f2, t2, h6, h7, ?_⟩
    rw [l_waves_7, if_neg (by rw [show (mo_tb (mo_raw g b.1 fr) ft).1 2 = nI p.2.2.1 from R.2.2.1]; exact nI_ge (by omega) (by omega)), og_t (vp_in_nI (by omega) (by decide)), nI_clamp (by omega), es]
    rw [show (mo_tb (mo_raw g b.1 fr) ft).1 0 = nI p.1 from R.1, e_across G.1.2, Option.bind_some, og_t (vp_in_nI (by omega) (by decide)), e_down hy (by omega), Option.bind_some, ← eny]
    refine h5.trans ?_
    show l_waves_7 K N _ _ (nI c + 1) _ = _
    rw [nI_1]
    exact h8
set_option maxRecDepth 10000 in
set_option maxHeartbeats 2000000 in
theorem e_waves {g : mo_G} {p : pi_P} (R : RP g p) (G : GP p) {y0 ln : Nat} (he : pi_end p y0 3 = y0 + ln) (h4 : ln ≤ 4) (hy : y0 % 2 = 0) (f : Nat → Int32) (r : by_B) : ∃ fr' ft', by_eq (co_tbs p y0 f r).2 fr' ∧ (co_tbs p y0 f r).2.1 ≤ 384 ∧ r_waves (nI y0) (nI ln) g = some (mo_tb (mo_raw g (co_tbs p y0 f r).2.1 fr') ft') := by
  obtain ⟨f1, t1, h1, h2, h3⟩ := e_w7 (K := fun g => some g) R G he h4 hy p.2.2.1 0 2000 (0, 0, r.2.2) f (g.2 9) (g.2 11) (fun k hk => absurd hk (Nat.not_lt_zero k)) (by omega) (by show 0 + _ ≤ _; have := G.2.2.1; omega) (by have := G.2.2.1; omega)
  refine ⟨f1, t1, h1, h2, ?_⟩
  refine Eq.trans ?_ h3
  show l_waves_7 _ 2000 _ _ 0 (upd g.1 6 0, g.2) = l_waves_7 _ 2000 _ _ 0 (upd g.1 6 0, mo_uA (mo_uA g.2 9 (g.2 9)) 11 (g.2 11))
  have e : mo_uA (mo_uA g.2 9 (g.2 9)) 11 (g.2 11) = g.2 := by
    funext i
    unfold mo_uA
    split
    · rename_i q
      rw [q]
    · split
      · rename_i q
        rw [q]
      · rfl
  rw [e]
set_option maxRecDepth 10000 in
set_option maxHeartbeats 2000000 in
theorem by_ok_gx (f : Nat → Int32) (row : Nat) : ∀ (j i : Nat) (r : by_B), by_ok r → by_ok (tb_gx f row j i r)
  | 0, _, _, h => h
  | j + 1, _, _, h => by_ok_gx f row j _ _ (by_ok_addN _ _ _ _ _ h)
set_option maxRecDepth 10000 in
set_option maxHeartbeats 2000000 in
theorem by_ok_gy (f : Nat → Int32) (nx : Nat) : ∀ (j row : Nat) (r : by_B), by_ok r → by_ok (tb_gy f nx j row r)
  | 0, _, _, h => h
  | j + 1, _, _, h => by_ok_gy f nx j _ _ (by_ok_gx _ _ _ _ _ h)
set_option maxRecDepth 10000 in
set_option maxHeartbeats 2000000 in
theorem by_ok_tbC (p : pi_P) (y : Nat) : ∀ (j c : Nat) (x : (Nat → Int32) × by_B), by_ok x.2 → by_ok (co_tbC p y j c x).2
  | 0, _, _, h => h
  | j + 1, c, x, h => by
    unfold co_tbC
    refine by_ok_tbC p y j _ _ ?_
    split
    · exact by_ok_gy _ _ _ _ _ (by_ok_gy _ _ _ _ _ h)
    · exact by_ok_gy _ _ _ _ _ h
