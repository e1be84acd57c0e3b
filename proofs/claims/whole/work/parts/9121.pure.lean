set_option maxRecDepth 10000 in
set_option maxHeartbeats 2000000 in
theorem rwC_ge (p : pi_P) (k y : Nat) : ∀ (j c z : Nat), z ≤ pi_rwC p k y j c z := by
  intro j
  induction j with
  | zero => intro c z; exact Nat.le_refl _
  | succ j ih =>
    intro c z
    unfold pi_rwC
    refine Nat.le_trans ?_ (ih (c + 1) _)
    split <;> omega
set_option maxRecDepth 10000 in
set_option maxHeartbeats 2000000 in
theorem rwY_ge (p : pi_P) (k : Nat) : ∀ (j y z : Nat), z ≤ pi_rwY p k j y z := by
  intro j
  induction j with
  | zero => intro c z; exact Nat.le_refl _
  | succ j ih =>
    intro y z
    unfold pi_rwY
    exact Nat.le_trans (rwC_ge p k y _ _ _) (ih (y + 1) _)
set_option maxRecDepth 10000 in
set_option maxHeartbeats 2000000 in
theorem sm_rwC {p p' : pi_P} (h : pi_sm p p') (k y : Nat) : ∀ (j c z : Nat), pi_rwC p' k y j c z = pi_rwC p k y j c z := by
  intro j
  induction j with
  | zero => intro c z; rfl
  | succ j ih =>
    intro c z
    unfold pi_rwC
    rw [ih, h.2.2.2.2.2, h.2.2.2.2.1, h.on, h.1]
set_option maxRecDepth 10000 in
set_option maxHeartbeats 2000000 in
theorem sm_rwY {p p' : pi_P} (h : pi_sm p p') (k : Nat) : ∀ (j y z : Nat), pi_rwY p' k j y z = pi_rwY p k j y z := by
  intro j
  induction j with
  | zero => intro c z; rfl
  | succ j ih =>
    intro y z
    unfold pi_rwY
    rw [ih, sm_rwC h, h.2.2.1]
set_option maxRecDepth 10000 in
set_option maxHeartbeats 2000000 in
theorem e_s19 {K : Int32 → Int32 → Int32 → Int32 → mo_G → Option mo_G} {g : mo_G} {r0 : by_B} (he : by_eq r0 (g.2 9)) (ok : by_ok r0) (h384 : r0.1 ≤ 384) {y k df : Nat} {a1 a2 : Int32} (hdf : df = 0 ∨ df = 1 ∧ k = 2) (hk : k < 4) : ∀ (j c N cu : Nat) (p : pi_P) (f : Nat → Int32), RS g p k → GP p → y < p.2.1 → SE p f → c + j = p.2.2.1 → pi_rwC p k y j c cu ≤ r0.1 → j < N → ∃ f' p', SE p' f' ∧ pi_sm p p' ∧ tk_lnC y k (nI df) j c ((r0.1, cu, r0.2.2), p) = ((r0.1, pi_rwC p k y j c cu, r0.2.2), p') ∧ l_scatter_19 K N a1 a2 (nI df) (nI y) (nI c) (mo_sc g cu f) = K a1 a2 (nI df) (nI y) (mo_sc g (pi_rwC p k y j c cu) f') := by
  intro j
  induction j with
  | zero =>
    intro c N cu p f RSp G hy hS hc hcu hN
    obtain ⟨N, rfl⟩ : ∃ m, N = m + 1 := ⟨N - 1, by omega⟩
    have h3 := G.2.2.1
    refine ⟨f, p, hS, pi_sm.rfl, rfl, ?_⟩
    rw [l_scatter_19, show (mo_sc g cu f).1 12 = nI p.2.2.1 from RSp.2.2.1, if_pos (nI_le (by omega) (by omega))]
    rfl
  | succ j ih =>
    intro c N cu p f RSp G hy hS hc hcu hN
    obtain ⟨N, rfl⟩ : ∃ m, N = m + 1 := ⟨N - 1, by omega⟩
    have h3 := G.2.2.1
    have hy8 := G.2.1.2
    have hcc : c < p.2.2.1 := by omega
    have gc := vp_in_nI (n := c) (N := 3) (by omega) (by decide)
    have cc : (nI c).toNatClampNeg = c := nI_clamp (by omega)
    have e7 : (mo_sc g cu f).2 7 c = p.2.2.2.2.2.1 c := (RSp.2.2.2.2 c hcc).2.2
    have e6 : (mo_sc g cu f).2 6 c = p.2.2.2.2.1 c := (RSp.2.2.2.2 c hcc).2.1
    have e13 : (mo_sc g cu f).1 13 = nI k := RSp.2.2.2.1
    rw [l_scatter_19, show (mo_sc g cu f).1 12 = nI p.2.2.1 from RSp.2.2.1, if_neg (nI_ge (by omega) (by omega)), og_t gc, cc, e7, og_t (stp_ne G hcc), og_t gc, e6, e13]
    unfold j_scatter_75 j_scatter_181
    unfold pi_rwC at hcu ⊢
    unfold tk_lnC
    have hiff := stp_iff G hcc (y := y) (by omega)
    by_cases q : p.2.2.2.2.2.1 c = 1 ∨ y % 2 = 0
    · rw [if_pos q] at hcu
      rw [if_pos (hiff.mpr q), if_pos q]
      have q' : (((r0.1, cu, r0.2.2), p) : by_B × pi_P).2.2.2.2.2.2.1 c = 1 ∨ y % 2 = 0 := q
      rw [if_pos q']
      have hge := rwC_ge p k y j (c + 1) (cu + pi_on p c p.1 * rf_by (p.2.2.2.2.1 c) k)
      have o8 := on_le (c := c) G
      obtain ⟨f1, h1, h2, h4⟩ := e_s80 (K := fun y8 y9 y10 y11 y12 g7 => (fun x1 x2 x3 x4 x5 g => l_scatter_19 K N x1 x2 x3 x4 x5 g) y8 y9 y10 y11 (y12 + 1) g7) he ok h384 (c := c) (y := y) (a1 := a1) (a2 := a2) hdf (pi_on p c p.1) 0 2000 0 0 cu p f RSp G hcc hy hS (by omega) (by omega) (by omega) (fun _ => rfl) (fun _ z => by omega)
      have sm := (tk_ln_in c y k (nI df) (pi_on p c p.1) 0 0 (r0.1, cu, r0.2.2) p h384 (by show cu ≤ r0.1; omega)).2.2
      obtain ⟨p1, hp1⟩ : ∃ p1, p1 = (tk_ln c y k (nI df) (pi_on p c p.1) 0 0 (r0.1, cu, r0.2.2) p).2 := ⟨_, rfl⟩
      rw [← hp1] at sm h1
      obtain ⟨f2, p2, i1, i2, i3, i4⟩ := ih (c + 1) N (cu + pi_on p c p.1 * rf_by (p.2.2.2.2.1 c) k) p1 f1 (pi_sm_RS sm RSp) (pi_sm_GP sm G) (by rw [sm.2.1]; exact hy) h1 (by rw [sm.2.2.1]; omega) (by rw [sm_rwC sm]; exact hcu) (by omega)
      rw [sm_rwC sm] at i3 i4
      refine ⟨f2, p2, i1, sm.trans i2, ?_, ?_⟩
      · rw [← i3]
        congr 1
        exact Prod.ext h2 hp1.symm
      · rw [← i4]
        rw [Nat.zero_mul, nI_0] at h4
        have key : ∀ B : Nat, B = rf_by (p.2.2.2.2.1 c) k → l_scatter_80 (fun y8 y9 y10 y11 y12 g7 => (fun x1 x2 x3 x4 x5 g => l_scatter_19 K N x1 x2 x3 x4 x5 g) y8 y9 y10 y11 (y12 + 1) g7) 2000 a1 a2 (nI df) (nI y) (nI c) 0 (nI B) 0 (mo_sc g cu f) = l_scatter_19 K N a1 a2 (nI df) (nI y) (nI (c + 1)) (mo_sc g (cu + pi_on p c p.1 * rf_by (p.2.2.2.2.1 c) k) f1) := by
          intro B hB
          rw [hB]
          refine h4.trans ?_
          show l_scatter_19 K N _ _ _ _ (nI c + 1) _ = _
          rw [nI_1]
        by_cases t : p.2.2.2.2.1 c = 1
        · rw [if_pos t]
          by_cases t2 : k = 2
          · rw [if_pos (show nI k = 2 by rw [t2]; rfl)]
            exact key 3 (by unfold rf_by; rw [if_pos t, if_pos t2])
          · rw [if_neg (show ¬ nI k = 2 from fun w => t2 (by rw [show (2 : Int32) = nI 2 from rfl, nI_eq (by omega) (by omega)] at w; exact w))]
            exact key 4 (by unfold rf_by; rw [if_pos t, if_neg t2])
        · rw [if_neg t]
          exact key 2 (by unfold rf_by; rw [if_neg t])
    · rw [if_neg q] at hcu
      rw [if_neg (fun z => q (hiff.mp z)), if_neg q]
      have q' : ¬ ((((r0.1, cu, r0.2.2), p) : by_B × pi_P).2.2.2.2.2.2.1 c = 1 ∨ y % 2 = 0) := q
      rw [if_neg q']
      obtain ⟨f2, p2, i1, i2, i3, i4⟩ := ih (c + 1) N cu p f RSp G hy hS (by omega) hcu (by omega)
      refine ⟨f2, p2, i1, i2, i3, ?_⟩
      rw [← i4, nI_1]
set_option maxRecDepth 10000 in
set_option maxHeartbeats 2000000 in
theorem e_s8 {K : mo_G → Option mo_G} {g : mo_G} {r0 : by_B} (he : by_eq r0 (g.2 9)) (ok : by_ok r0) (h384 : r0.1 ≤ 384) {y0 ln k df : Nat} (hdf : df = 0 ∨ df = 1 ∧ k = 2) (hk : k < 4) : ∀ (j y N cu : Nat) (p : pi_P) (f : Nat → Int32), RS g p k → GP p → y0 + ln ≤ p.2.1 → SE p f → y + j = y0 + ln → pi_rwY p k j y cu ≤ r0.1 → j < N → ∃ f' p', SE p' f' ∧ pi_sm p p' ∧ tk_lnY k (nI df) j y ((r0.1, cu, r0.2.2), p) = ((r0.1, pi_rwY p k j y cu, r0.2.2), p') ∧ l_scatter_8 K N (nI y0) (nI ln) (nI df) (nI y) (mo_sc g cu f) = K (mo_sc g (pi_rwY p k j y cu) f') := by
  intro j
  induction j with
  | zero =>
    intro y N cu p f RSp G hl hS hc hcu hN
    obtain ⟨N, rfl⟩ : ∃ m, N = m + 1 := ⟨N - 1, by omega⟩
    have h3 := G.2.1.2
    refine ⟨f, p, hS, pi_sm.rfl, rfl, ?_⟩
    rw [l_scatter_8, nI_add, if_pos (nI_le (by omega) (by omega))]
    rfl
  | succ j ih =>
    intro y N cu p f RSp G hl hS hc hcu hN
    obtain ⟨N, rfl⟩ : ∃ m, N = m + 1 := ⟨N - 1, by omega⟩
    have h3 := G.2.2.1
    have hy8 := G.2.1.2
    rw [l_scatter_8, nI_add, if_neg (nI_ge (by omega) (by omega))]
    unfold pi_rwY at hcu ⊢
    have hge := rwY_ge p k j (y + 1) (pi_rwC p k y p.2.2.1 0 cu)
    obtain ⟨f1, p1, h1, h2, h4, h5⟩ := e_s19 (K := fun y14 y15 y16 y17 g13 => (fun x1 x2 x3 x4 g => l_scatter_8 K N x1 x2 x3 x4 g) y14 y15 y16 (y17 + 1) g13) he ok h384 (y := y) (a1 := nI y0) (a2 := nI ln) hdf hk p.2.2.1 0 2000 cu p f RSp G (by omega) hS (by omega) (by omega) (by omega)
    obtain ⟨f2, p2, i1, i2, i3, i4⟩ := ih (y + 1) N (pi_rwC p k y p.2.2.1 0 cu) p1 f1 (pi_sm_RS h2 RSp) (pi_sm_GP h2 G) (by rw [h2.2.1]; exact hl) h1 (by omega) (by rw [sm_rwY h2]; exact hcu) (by omega)
    rw [sm_rwY h2] at i3 i4
    refine ⟨f2, p2, i1, h2.trans i2, ?_, ?_⟩
    · rw [← i3]
      show tk_lnY k (nI df) j (y + 1) (tk_lnC y k (nI df) p.2.2.1 0 ((r0.1, cu, r0.2.2), p)) = _
      rw [h4]
    · rw [nI_0] at h5
      refine h5.trans ?_
      rw [← i4]
      show l_scatter_8 K N _ _ _ (nI y + 1) _ = _
      rw [nI_1]
set_option maxRecDepth 10000 in
set_option maxHeartbeats 2000000 in
theorem e_scatter {g : mo_G} {r0 : by_B} (he : by_eq r0 (g.2 9)) (ok : by_ok r0) (h384 : r0.1 ≤ 384) {y0 ln k df : Nat} (hdf : df = 0 ∨ df = 1 ∧ k = 2) (hk : k < 4) {p : pi_P} (RSp : RS g p k) (G : GP p) (hl : y0 + ln ≤ p.2.1) (hS : SE p (g.2 8)) (h0 : r0.2.1 = 0) (hcu : pi_rwY p k ln y0 0 ≤ r0.1) : ∃ f' n, SE (tk_lnY k (nI df) ln y0 (r0, p)).2 f' ∧ pi_sm p (tk_lnY k (nI df) ln y0 (r0, p)).2 ∧ r_scatter (nI y0) (nI ln) (nI df) g = some (mo_sc g n f') := by
  obtain ⟨f', p', h1, h2, h3, h4⟩ := e_s8 (K := fun g => some g) he ok h384 (y0 := y0) (ln := ln) hdf hk ln y0 2000 0 p (g.2 8) RSp G hl hS rfl hcu (by have := G.2.1.2; omega)
  have e0 : ((r0.1, 0, r0.2.2) : by_B) = r0 := by rw [← h0]
  rw [e0] at h3
  rw [h3]
  refine ⟨f', pi_rwY p k ln y0 0, h1, h2, ?_⟩
  refine Eq.trans ?_ h4
  show l_scatter_8 _ 2000 _ _ _ _ (upd g.1 14 0, g.2) = l_scatter_8 _ 2000 _ _ _ _ (upd g.1 14 0, mo_uA g.2 8 (g.2 8))
  rw [show mo_uA g.2 8 (g.2 8) = g.2 by funext i; by_cases q : i = 8; rw [q, uA_s]; exact uA_n q]
