set_option maxRecDepth 10000 in
set_option maxHeartbeats 2000000 in
theorem tt_1_r (c y sh : Nat) (t : Nat → Int32) (r : by_B) (p : pi_P) : tt_1 c y sh (t, r, p) = ((tt_1 c y sh (t, r, p)).1, (tt_1 c y sh (t, r, p)).2.1, (tt_1 c y sh (t, r, p)).2.2) := rfl
set_option maxRecDepth 10000 in
set_option maxHeartbeats 2000000 in
theorem e_v46 {K : Int32 → Int32 → Int32 → mo_G → Option mo_G} {g : mo_G} {r0 : by_B} (he : by_eq r0 (g.2 9)) (ok : by_ok r0) (h384 : r0.1 ≤ 384) {c y0 ln cu : Nat} {p : pi_P} {f t t' : Nat → Int32} (RSp : RS g p 3) (G : GP p) (hc : c < p.2.2.1) (hen : pi_end p y0 3 = y0 + ln) (h4 : ln ≤ 4) (hy : y0 % 2 = 0) (hS : SE p f) (hcu : cu + pi_on p c ln * (pi_on p c p.1 * rf_by (p.2.2.2.2.1 c) 3) ≤ r0.1) (hz : ZC p c y0 ln) : ∃ f' t1, SE (tt_C y0 1 c (t, (r0.1, cu, r0.2.2), p)).2.2 f' ∧ (tt_C y0 1 c (t, (r0.1, cu, r0.2.2), p)).2.1 = (r0.1, cu + pi_on p c ln * (pi_on p c p.1 * rf_by (p.2.2.2.2.1 c) 3), r0.2.2) ∧ ch_ p (tt_C y0 1 c (t, (r0.1, cu, r0.2.2), p)).2.2 y0 (y0 + ln) ∧ (∀ q, (q < 64 * c ∨ 64 * c + 64 ≤ q) → (tt_C y0 1 c (t, (r0.1, cu, r0.2.2), p)).2.2.2.2.2.2.2.2 q = p.2.2.2.2.2.2 q) ∧ l_unwaves_46 K 2000 (nI y0) (nI ln) (nI c) (nI (pi_nx p c)) (nI (pi_ny p c y0)) 0 (mo_sc (mo_tb g t') cu f) = K (nI y0) (nI ln) (nI c) (mo_sc (mo_tb g t1) (cu + pi_on p c ln * (pi_on p c p.1 * rf_by (p.2.2.2.2.1 c) 3)) f') := by
  have h3 := G.2.2.1
  have et : ∀ (n : Nat) (f t : Nat → Int32), (mo_sc (mo_tb g t) n f).2 6 c = p.2.2.2.2.1 c := fun n f t => (RSp.2.2.2.2 c hc).2.1
  have cc : (nI c).toNatClampNeg = c := nI_clamp (by omega)
  have gc := vp_in_nI (n := c) (N := 3) (by omega) (by decide)
  have eny : pi_ny p c y0 = pi_on p c ln := by unfold pi_ny; rw [hen, Nat.add_sub_cancel_left]
  have enx : pi_nx p c = pi_on p c p.1 := rfl
  unfold tt_C tt_C
  by_cases q : p.2.2.2.2.1 c = 1
  · have q' : ((t, (r0.1, cu, r0.2.2), p) : tt_X).2.2.2.2.2.2.1 c = 1 := q
    rw [if_pos q']
    have e4 : pi_on p c ln * (pi_on p c p.1 * rf_by (p.2.2.2.2.1 c) 3) = pi_ny p c y0 * (2 * pi_nx p c) + pi_ny p c y0 * (2 * pi_nx p c) := by
      rw [q, show rf_by 1 3 = 4 from rfl, eny, enx, ← Nat.mul_add]
      congr 1
      omega
    rw [e4] at hcu ⊢
    obtain ⟨f1, t1, a1, a2, a3, a4, a5⟩ := e_v63 (K := K) (bk := fun x1 x2 x3 x4 x5 x6 g => l_unwaves_46 K 1999 x1 x2 x3 x4 x5 x6 g) he ok h384 (hf := 0) (lim := 2) (cu := cu) (t := t) (t' := t') RSp G hc hen h4 hy (by omega) (by omega) hS (by omega) (fun _ => hz)
    obtain ⟨X, hX⟩ : ∃ X, X = tt_1 c y0 (16 * 0) (t, (r0.1, cu, r0.2.2), p) := ⟨_, rfl⟩
    rw [← hX] at a1 a2 a3 a4
    have sm := a3.1
    have hX2 : tt_1 c y0 0 (t, (r0.1, cu, r0.2.2), p) = (X.1, (r0.1, cu + pi_ny p c y0 * (2 * pi_nx p c), r0.2.2), X.2.2) := by
      rw [← a2, hX]
    have eP : pi_ny X.2.2 c y0 = pi_ny p c y0 := sm.ny c y0
    have eQ : pi_nx X.2.2 c = pi_nx p c := sm.nx c
    obtain ⟨f2, t2, b1, b2, b3, b4, b5⟩ := e_v63 (K := K) (bk := fun x1 x2 x3 x4 x5 x6 g => l_unwaves_46 K 1998 x1 x2 x3 x4 x5 x6 g) he ok h384 (hf := 1) (lim := 2) (cu := cu + pi_ny p c y0 * (2 * pi_nx p c)) (t := X.1) (t' := t1) (pi_sm_RS sm RSp) (pi_sm_GP sm G) (by rw [sm.2.2.1]; exact hc) (by rw [sm.en]; exact hen) h4 hy (by omega) (by omega) a1 (by rw [eP, eQ]; omega) (fun z => by omega)
    rw [eP, eQ] at b2 b5
    rw [hX2]
    rw [Nat.mul_one] at b1 b2 b3 b4
    refine ⟨f2, t2, b1, by rw [b2, Nat.add_assoc], a3.trans b3, fun q hq => (b4 q hq).trans (a4 q hq), ?_⟩
    rw [l_unwaves_46, og_t gc, cc, et, if_pos q]
    refine a5.trans ?_
    show l_unwaves_46 K 1999 _ _ _ _ _ _ _ = _
    rw [l_unwaves_46, og_t gc, cc, et, if_pos q]
    refine b5.trans ?_
    show l_unwaves_46 K 1998 _ _ _ _ _ _ _ = _
    rw [l_unwaves_46, og_t gc, cc, et, if_pos q]
    unfold j_unwaves_63
    rw [if_pos (by decide), Nat.add_assoc]
  · have q' : ¬ ((t, (r0.1, cu, r0.2.2), p) : tt_X).2.2.2.2.2.2.1 c = 1 := q
    rw [if_neg q']
    have e4 : pi_on p c ln * (pi_on p c p.1 * rf_by (p.2.2.2.2.1 c) 3) = pi_ny p c y0 * (2 * pi_nx p c) := by
      rw [show rf_by (p.2.2.2.2.1 c) 3 = 2 by unfold rf_by; rw [if_neg q], eny, enx, Nat.mul_comm 2]
    rw [e4] at hcu ⊢
    obtain ⟨f1, t1, a1, a2, a3, a4, a5⟩ := e_v63 (K := K) (bk := fun x1 x2 x3 x4 x5 x6 g => l_unwaves_46 K 1999 x1 x2 x3 x4 x5 x6 g) he ok h384 (hf := 0) (lim := 1) (cu := cu) (t := t) (t' := t') RSp G hc hen h4 hy (by omega) (by omega) hS (by omega) (fun _ => hz)
    refine ⟨f1, t1, a1, a2, a3, a4, ?_⟩
    rw [l_unwaves_46, og_t gc, cc, et, if_neg q]
    refine a5.trans ?_
    show l_unwaves_46 K 1999 _ _ _ _ _ _ _ = _
    rw [l_unwaves_46, og_t gc, cc, et, if_neg q]
    unfold j_unwaves_63
    rw [if_pos (by decide)]
set_option maxRecDepth 10000 in
set_option maxHeartbeats 2000000 in
theorem sm_wsum {p p' : pi_P} (h : pi_sm p p') (k t : Nat) : ∀ (j c : Nat), wsum p' k t j c = wsum p k t j c := by
  intro j
  induction j with
  | zero => intro c; rfl
  | succ j ih =>
    intro c
    unfold wsum
    rw [ih, h.on, h.on, h.1, h.2.2.2.2.1]
set_option maxRecDepth 10000 in
set_option maxHeartbeats 2000000 in
theorem e_v7 {K : mo_G → Option mo_G} {g : mo_G} {r0 : by_B} (he : by_eq r0 (g.2 9)) (ok : by_ok r0) (h384 : r0.1 ≤ 384) {y0 ln : Nat} (h4 : ln ≤ 4) (hy : y0 % 2 = 0) : ∀ (j c N cu : Nat) (p : pi_P) (f t t' : Nat → Int32), RS g p 3 → GP p → pi_end p y0 3 = y0 + ln → SE p f → c + j = p.2.2.1 → cu + wsum p 3 ln j c ≤ r0.1 → ZC p c y0 ln → j < N → ∃ f' t1 cu', SE (tt_C y0 j c (t, (r0.1, cu, r0.2.2), p)).2.2 f' ∧ ch_ p (tt_C y0 j c (t, (r0.1, cu, r0.2.2), p)).2.2 y0 (y0 + ln) ∧ l_unwaves_7 K N (nI y0) (nI ln) (nI c) (mo_sc (mo_tb g t') cu f) = K (mo_sc (mo_tb g t1) cu' f') := by
  intro j
  induction j with
  | zero =>
    intro c N cu p f t t' RSp G hen hS hc hcu hz hN
    obtain ⟨N, rfl⟩ : ∃ m, N = m + 1 := ⟨N - 1, by omega⟩
    have h3 := G.2.2.1
    refine ⟨f, t', cu, hS, ch_.rfl, ?_⟩
    rw [l_unwaves_7, show (mo_sc (mo_tb g t') cu f).1 12 = nI p.2.2.1 from RSp.2.2.1, if_pos (nI_le (by omega) (by omega))]
  | succ j ih =>
    intro c N cu p f t t' RSp G hen hS hc hcu hz hN
    obtain ⟨N, rfl⟩ : ∃ m, N = m + 1 := ⟨N - 1, by omega⟩
    have h3 := G.2.2.1
    have hcc : c < p.2.2.1 := by omega
    have hl : y0 + ln ≤ p.2.1 := by rw [← hen]; exact pi_end_le _ _ _
    have hy8 := G.2.1.2
    have eny : pi_ny p c y0 = pi_on p c ln := by unfold pi_ny; rw [hen, Nat.add_sub_cancel_left]
    have es : (mo_sc (mo_tb g t') cu f).2 7 c = nI (pi_st p c) := ((RSp.2.2.2.2 c hcc).2.2).trans (st_eq G hcc)
    unfold wsum at hcu
    obtain ⟨f1, t1, a1, a2, a3, a4, a5⟩ := e_v46 (K := fun y65 y66 y67 g64 => (fun x1 x2 x3 g => l_unwaves_7 K N x1 x2 x3 g) y65 y66 (y67 + 1) g64) he ok h384 (cu := cu) (t := t) (t' := t') RSp G hcc hen h4 hy hS (by omega) hz
    obtain ⟨X, hX⟩ : ∃ X, X = tt_C y0 1 c (t, (r0.1, cu, r0.2.2), p) := ⟨_, rfl⟩
    rw [← hX] at a1 a2 a3 a4
    have sm := a3.1
    have et : tt_C y0 (j + 1) c (t, (r0.1, cu, r0.2.2), p) = tt_C y0 j (c + 1) (X.1, (r0.1, cu + pi_on p c ln * (pi_on p c p.1 * rf_by (p.2.2.2.2.1 c) 3), r0.2.2), X.2.2) := by
      rw [← a2, hX]
      rfl
    obtain ⟨f2, t2, cu2, b1, b2, b3⟩ := ih (c + 1) N (cu + pi_on p c ln * (pi_on p c p.1 * rf_by (p.2.2.2.2.1 c) 3)) X.2.2 f1 X.1 t1 (pi_sm_RS sm RSp) (pi_sm_GP sm G) (by rw [sm.en]; exact hen) a1 (by rw [sm.2.2.1]; omega) (by rw [sm_wsum sm]; omega) (fun c' y x h5 h6 h7 h8 h9 => by
      rw [a4 _ (by omega)]
      exact hz c' y x (by omega) h6 h7 h8 h9) (by omega)
    rw [et]
    refine ⟨f2, t2, cu2, b1, a3.trans b2, ?_⟩
    rw [l_unwaves_7, show (mo_sc (mo_tb g t') cu f).1 12 = nI p.2.2.1 from RSp.2.2.1, if_neg (nI_ge (by omega) (by omega)), og_t (vp_in_nI (by omega) (by decide)), nI_clamp (by omega), es, show (mo_sc (mo_tb g t') cu f).1 10 = nI p.1 from RSp.1, e_across G.1.2, Option.bind_some, og_t (vp_in_nI (by omega) (by decide)), e_down hy (by omega), Option.bind_some, ← eny]
    refine a5.trans ?_
    rw [← b3]
    show l_unwaves_7 K N _ _ (nI c + 1) _ = _
    rw [nI_1]
set_option maxRecDepth 10000 in
set_option maxHeartbeats 2000000 in
theorem e_unwaves {g : mo_G} {r0 : by_B} (he : by_eq r0 (g.2 9)) (ok : by_ok r0) (h384 : r0.1 ≤ 384) {y0 ln : Nat} (h4 : ln ≤ 4) (hy : y0 % 2 = 0) {p : pi_P} (RSp : RS g p 3) (G : GP p) (hen : pi_end p y0 3 = y0 + ln) (hS : SE p (g.2 8)) (h0 : r0.2.1 = 0) (hcu : pi_rwY p 3 ln y0 0 ≤ r0.1) (hz : ZC p 0 y0 ln) (t : Nat → Int32) : ∃ f' t1 n, SE (tt_s y0 (t, r0, p)).2.2 f' ∧ ch_ p (tt_s y0 (t, r0, p)).2.2 y0 (y0 + ln) ∧ r_unwaves (nI y0) (nI ln) g = some (mo_sc (mo_tb g t1) n f') := by
  obtain ⟨f', t1, n, h1, h2, h3⟩ := e_v7 (K := fun g => some g) he ok h384 h4 hy p.2.2.1 0 2000 0 p (g.2 8) t (g.2 11) RSp G hen hS (by omega) (by rw [← raw_ws p 3 y0 ln hy, Nat.zero_add]; exact hcu) hz (by have := G.2.2.1; omega)
  have e0 : ((r0.1, 0, r0.2.2) : by_B) = r0 := by rw [← h0]
  rw [e0] at h1 h2
  refine ⟨f', t1, n, h1, h2, ?_⟩
  refine Eq.trans ?_ h3
  show l_unwaves_7 _ 2000 _ _ 0 (upd g.1 14 0, g.2) = l_unwaves_7 _ 2000 _ _ 0 (upd g.1 14 0, mo_uA (mo_uA g.2 11 (g.2 11)) 8 (g.2 8))
  rw [show mo_uA (mo_uA g.2 11 (g.2 11)) 8 (g.2 8) = g.2 by
    funext i
    by_cases q : i = 8
    · rw [q, uA_s]
    · rw [uA_n q]
      by_cases q2 : i = 11
      · rw [q2, uA_s]
      · exact uA_n q2]
