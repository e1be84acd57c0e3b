set_option maxRecDepth 10000 in
set_option maxHeartbeats 2000000 in
theorem or0 (x : Int32) : (0 : Int32) ||| (x <<< (nI (16 * 0) &&& 31)) = x := by
  have e : x <<< (nI (16 * 0) &&& 31) = x := by
    apply tn_inj
    rw [pk_shl _ _ 0 (by decide)]
    have := x.toBitVec.isLt
    omega
  rw [e]
  apply Int32.toBitVec_inj.mp
  rw [Int32.toBitVec_or]
  exact BitVec.zero_or
set_option maxRecDepth 10000 in
set_option maxHeartbeats 2000000 in
theorem e_v212 {K : Int32 → Int32 → Int32 → Int32 → Int32 → Int32 → Int32 → Int32 → mo_G → Option mo_G} {g : mo_G} {c y0 k row hf cu nx sv : Nat} {a1 a2 a5 : Int32} {t t' : Nat → Int32} (hh : hf < 2) (hr : row < 8) (ht : ∀ x, x < nx → t' (8 * row + x) = t (8 * row + x)) : ∀ (j i N : Nat) (p : pi_P) (f : Nat → Int32), RS g p k → GP p → c < p.2.2.1 → y0 + row * sv < p.2.1 → nx = pi_on p c p.1 → sv = pi_st p c → SE p f → i + j = nx → j < N → (hf = 0 → ∀ x, i ≤ x → x < nx → p.2.2.2.2.2.2 (64 * c + 8 * (y0 + row * sv) + x * sv) = 0) → ∃ f', SE (tg_x t c y0 (16 * hf) sv row j i p) f' ∧ l_unwaves_212 K N a1 a2 (nI c) (nI nx) a5 (nI hf) (nI row) (nI (y0 + row * sv)) (nI i) (mo_sc (mo_tb g t') cu f) = K a1 a2 (nI c) (nI nx) a5 (nI hf) (nI row) (nI (y0 + row * sv)) (mo_sc (mo_tb g t') cu f') := by
  intro j
  induction j with
  | zero =>
    intro i N p f RSp G hc hy hnx hsv hS hi hN hz
    obtain ⟨N, rfl⟩ : ∃ m, N = m + 1 := ⟨N - 1, by omega⟩
    have o8 := on_le (c := c) G
    refine ⟨f, hS, ?_⟩
    rw [l_unwaves_212, if_pos (nI_le (by omega) (by omega))]
  | succ j ih =>
    intro i N p f RSp G hc hy hnx hsv hS hi hN hz
    obtain ⟨N, rfl⟩ : ∃ m, N = m + 1 := ⟨N - 1, by omega⟩
    have o8 := on_le (c := c) G
    have h8 := G.1.2
    have h3 := G.2.2.1
    have hy8 := G.2.1.2
    have hx := on_lt (p := p) (c := c) (i := i) G hc (by omega)
    rw [← hsv] at hx
    have hsv1 : 1 ≤ sv := by rw [hsv]; unfold pi_st; split <;> omega
    obtain ⟨Q, hQ⟩ : ∃ Q, Q = 64 * c + 8 * (y0 + row * sv) + i * sv := ⟨_, rfl⟩
    have hQ192 : Q < 192 := by omega
    obtain ⟨V, hV⟩ : ∃ V, V = p.2.2.2.2.2.2 Q ||| (t (8 * row + i) <<< (nI (16 * hf) &&& 31)) := ⟨_, rfl⟩
    have sm : pi_sm p (pi_put p c (i * sv) (y0 + row * sv) V) := pi_sm.put
    have hS2 : SE (pi_put p c (i * sv) (y0 + row * sv) V) (upd f Q V) := by rw [hQ]; exact hS.put
    obtain ⟨f', h1, h2⟩ := ih (i + 1) N (pi_put p c (i * sv) (y0 + row * sv) V) (upd f Q V) (pi_sm_RS sm RSp) (pi_sm_GP sm G) hc hy (by rw [sm.on]; exact hnx) (by rw [sm.st]; exact hsv) hS2 (by omega) (by omega) (fun z x h4 h5 => by
      show upd p.2.2.2.2.2.2 (64 * c + 8 * (y0 + row * sv) + i * sv) V (64 * c + 8 * (y0 + row * sv) + x * sv) = 0
      rw [ux_n]
      · exact hz z x (by omega) h5
      · intro w
        have : x * sv = i * sv := by omega
        have := Nat.eq_of_mul_eq_mul_right hsv1 this
        omega)
    refine ⟨f', ?_, ?_⟩
    · show SE (tg_x t c y0 (16 * hf) sv row j (i + 1) (pi_put p c (i * sv) (y0 + row * sv) (p.2.2.2.2.2.2 (64 * c + 8 * (y0 + row * sv) + i * sv) ||| (t (8 * row + i) <<< (nI (16 * hf) &&& 31))))) f'
      rw [← hQ, ← hV]
      exact h1
    · rw [← h2, l_unwaves_212, if_neg (nI_ge (by omega) (by omega)), og_t (vp_in_nI (by omega) (by decide)), nI_clamp (by omega)]
      rw [show (mo_sc (mo_tb g t') cu f).2 7 c = nI sv by rw [hsv]; exact ((RSp.2.2.2.2 c hc).2.2).trans (st_eq G hc), ixs, ix2, Nat.mul_comm sv i, ← hQ]
      unfold j_unwaves_292
      have gQ := vp_in_nI (n := Q) (N := 192) hQ192 (by decide)
      have gT := vp_in_nI (n := 8 * row + i) (N := 64) (by omega) (by decide)
      have cQ : (nI Q).toNatClampNeg = Q := nI_clamp (by omega)
      have cT : (nI (8 * row + i)).toNatClampNeg = 8 * row + i := nI_clamp (by omega)
      have e11 : (mo_sc (mo_tb g t') cu f).2 11 (8 * row + i) = t (8 * row + i) := ht i (by omega)
      have e8 : (mo_sc (mo_tb g t') cu f).2 8 = f := rfl
      have eS : ∀ w : Int32, ((mo_sc (mo_tb g t') cu f).1, mo_uA (mo_sc (mo_tb g t') cu f).2 8 (upd f Q w)) = mo_sc (mo_tb g t') cu (upd f Q w) := by
        intro w
        unfold mo_sc
        show (_, mo_uA (mo_uA _ 8 f) 8 _) = _
        rw [uA]
      simp only [og_t gQ, og_t gT, cQ, cT, e11, e8, nI_1, eS]
      rcases (show hf = 0 ∨ hf = 1 by omega) with z | z
      · rw [if_pos (show nI hf = 0 by rw [z]; rfl)]
        have hz0 := hz z i (by omega) (by omega)
        rw [← hQ] at hz0
        have : V = t (8 * row + i) := by rw [hV, hz0, z]; exact or0 _
        rw [this]
      · rw [if_neg (show ¬ nI hf = 0 by rw [z]; decide), hS Q hQ192]
        have : V = p.2.2.2.2.2.2 Q ||| (t (8 * row + i) <<< (16 &&& 31)) := by rw [hV, z]; rfl
        rw [this]
set_option maxRecDepth 10000 in
set_option maxHeartbeats 2000000 in
theorem e_v186 {K : Int32 → Int32 → Int32 → Int32 → Int32 → Int32 → mo_G → Option mo_G} {g : mo_G} {c y0 ln k hf cu nx ny sv : Nat} {a5 : Int32} {t t' : Nat → Int32} (hh : hf < 2) (hy : y0 % 2 = 0) (hT : T_eq nx ny t t') : ∀ (m tt N : Nat) (p : pi_P) (f : Nat → Int32), RS g p k → GP p → c < p.2.2.1 → y0 + ln ≤ p.2.1 → nx = pi_on p c p.1 → ny = pi_on p c ln → sv = pi_st p c → SE p f → tt + m = ln → m < N → (hf = 0 → ∀ r x, pi_on p c tt ≤ r → r < ny → x < nx → p.2.2.2.2.2.2 (64 * c + 8 * (y0 + r * sv) + x * sv) = 0) → ∃ f', SE (tg_y t c y0 (16 * hf) sv nx (ny - pi_on p c tt) (pi_on p c tt) p) f' ∧ l_unwaves_186 K N (nI y0) (nI ln) (nI c) (nI nx) a5 (nI hf) (nI (pi_on p c tt)) (nI (y0 + tt)) (mo_sc (mo_tb g t') cu f) = K (nI y0) (nI ln) (nI c) (nI nx) a5 (nI hf) (mo_sc (mo_tb g t') cu f') := by
  intro m
  induction m with
  | zero =>
    intro tt N p f RSp G hc hl hnx hny hsv hS ht hN hz
    obtain ⟨N, rfl⟩ : ∃ m, N = m + 1 := ⟨N - 1, by omega⟩
    have hy8 := G.2.1.2
    have e : tt = ln := by omega
    refine ⟨f, ?_, ?_⟩
    · rw [hny, e, Nat.sub_self]
      exact hS
    · rw [l_unwaves_186, nI_add, if_pos (nI_le (by omega) (by omega))]
  | succ m ih =>
    intro tt N p f RSp G hc hl hnx hny hsv hS ht hN hz
    obtain ⟨N, rfl⟩ : ∃ m, N = m + 1 := ⟨N - 1, by omega⟩
    have hy8 := G.2.1.2
    have h3 := G.2.2.1
    have h8 := G.1.2
    have o8 := on_le (c := c) G
    have e7 : (mo_sc (mo_tb g t') cu f).2 7 c = p.2.2.2.2.2.1 c := (RSp.2.2.2.2 c hc).2.2
    rw [l_unwaves_186, nI_add, if_neg (nI_ge (by omega) (by omega)), og_t (vp_in_nI (by omega) (by decide)), nI_clamp (by omega), e7, og_t (stp_ne G hc)]
    have hiff := stp_iff G hc (y := y0 + tt) (by omega)
    have os := on_succ p c y0 tt hy
    by_cases q : p.2.2.2.2.2.1 c = 1 ∨ (y0 + tt) % 2 = 0
    · rw [if_pos (hiff.mpr q)]
      rw [if_pos q] at os
      have s2 : pi_on p c tt * sv = tt := by
        rw [hsv]
        unfold pi_on pi_st
        by_cases z : p.2.2.2.2.2.1 c = 1
        · simp [z]
        · simp only [z, if_false, false_or] at q ⊢
          omega
      have mono : pi_on p c (tt + 1) ≤ pi_on p c ln := by
        rcases st12 p c with ⟨_, z⟩ | ⟨_, z⟩ <;> rw [z, z] <;> omega
      have hrow : pi_on p c tt < ny := by omega
      have hny8 : ny ≤ 8 := by rw [hny]; rcases st12 p c with ⟨_, z⟩ | ⟨_, z⟩ <;> rw [z] <;> omega
      obtain ⟨f1, h1, h2⟩ := e_v212 (K := fun y49 y50 y51 y52 y53 y54 y55 y56 g48 => j_unwaves_302 K (fun x1 x2 x3 x4 x5 x6 x8 x9 g => l_unwaves_186 K N x1 x2 x3 x4 x5 x6 x8 x9 g) y49 y50 y51 y52 y53 y54 (y55 + 1) y56 g48) (a1 := nI y0) (a2 := nI ln) (a5 := a5) (cu := cu) (row := pi_on p c tt) hh (by omega) (fun x hx => hT (pi_on p c tt) hrow x hx) nx 0 2000 p f RSp G hc (by rw [s2]; omega) hnx hsv hS (by omega) (by omega) (fun z x _ h5 => hz z _ x (Nat.le_refl _) hrow h5)
      have c1 := ch_gx t c y0 (16 * hf) (pi_on p c tt) nx 0 p G hc (by omega) hy sv hsv
      obtain ⟨p1, hp1⟩ : ∃ p1, p1 = tg_x t c y0 (16 * hf) sv (pi_on p c tt) nx 0 p := ⟨_, rfl⟩
      rw [← hp1] at c1 h1
      have sm := c1.1
      obtain ⟨f2, i1, i2⟩ := ih (tt + 1) N p1 f1 (pi_sm_RS sm RSp) (pi_sm_GP sm G) (by rw [sm.2.2.1]; exact hc) (by rw [sm.2.1]; exact hl) (by rw [sm.on, sm.1]; exact hnx) (by rw [sm.on]; exact hny) (by rw [sm.st]; exact hsv) h1 (by omega) (by omega) (fun z r x h4 h5 h6 => by
        rw [sm.on] at h4
        have hx := on_lt (p := p) (c := c) (i := x) G hc (by omega)
        rw [← hsv] at hx
        have hr8 : y0 + r * sv < 8 := by
          have hr2 : r * sv < ln := by
            rw [hsv]
            rw [hny] at h5
            rcases st12 p c with ⟨a, b⟩ | ⟨a, b⟩
            · rw [a]; rw [b] at h5; omega
            · rw [a]; rw [b] at h5; omega
          omega
        rw [c1.2]
        · exact hz z r x (by omega) h5 h6
        · rintro ⟨c', x', y', a1, a2, a3, a4, a5, a6⟩
          rw [s2] at a3 a4
          have hrs : tt < r * sv := by
            rw [← s2]
            have hs1 : 0 < sv := by rw [hsv]; unfold pi_st; split <;> omega
            exact Nat.mul_lt_mul_of_pos_right (by omega) hs1
          omega)
      rw [sm.on, os] at i1 i2
      refine ⟨f2, ?_, ?_⟩
      · rw [show ny - pi_on p c tt = (ny - (pi_on p c tt + 1)) + 1 by omega]
        show SE (tg_y t c y0 (16 * hf) sv nx (ny - (pi_on p c tt + 1)) (pi_on p c tt + 1) (tg_x t c y0 (16 * hf) sv (pi_on p c tt) nx 0 p)) f2
        rw [← hp1]
        exact i1
      · rw [s2, nI_0] at h2
        refine h2.trans ?_
        rw [← i2]
        unfold j_unwaves_302
        rw [nI_1, nI_1, Nat.add_assoc]
    · rw [if_neg (fun z => q (hiff.mp z))]
      rw [if_neg q, Nat.add_zero] at os
      obtain ⟨f2, i1, i2⟩ := ih (tt + 1) N p f RSp G hc hl hnx hny hsv hS (by omega) (by omega) (by rw [os]; exact hz)
      rw [os] at i1 i2
      refine ⟨f2, i1, ?_⟩
      rw [← i2]
      unfold j_unwaves_302
      rw [nI_1, Nat.add_assoc]
      rfl
def ZC (p : pi_P) (c y0 ln : Nat) : Prop := ∀ c' y x, c ≤ c' → c' < 3 → y0 ≤ y → y < y0 + ln → x < 8 → p.2.2.2.2.2.2 (64 * c' + 8 * y + x) = 0
set_option maxRecDepth 10000 in
set_option maxHeartbeats 2000000 in
theorem gx_out (f : Nat → Int32) (c y sh row : Nat) : ∀ (j i : Nat) (p : pi_P) (sv q : Nat), (∀ i', i' < i + j → i' * sv < 8) → y + row * sv < 8 → (q < 64 * c ∨ 64 * c + 64 ≤ q) → (tg_x f c y sh sv row j i p).2.2.2.2.2.2 q = p.2.2.2.2.2.2 q := by
  intro j
  induction j with
  | zero => intro i p sv q _ _ _; rfl
  | succ j ih =>
    intro i p sv q h1 h2 h3
    unfold tg_x
    rw [ih (i + 1) _ sv q (fun i' hi => h1 i' (by omega)) h2 h3]
    show upd p.2.2.2.2.2.2 _ _ q = _
    exact ux_n (by have := h1 i (by omega); omega)
set_option maxRecDepth 10000 in
set_option maxHeartbeats 2000000 in
theorem gy_out (f : Nat → Int32) (c y sh nx : Nat) : ∀ (j row : Nat) (p : pi_P) (sv q : Nat), (∀ i', i' < nx → i' * sv < 8) → (∀ r, r < row + j → y + r * sv < 8) → (q < 64 * c ∨ 64 * c + 64 ≤ q) → (tg_y f c y sh sv nx j row p).2.2.2.2.2.2 q = p.2.2.2.2.2.2 q := by
  intro j
  induction j with
  | zero => intro i p sv q _ _ _; rfl
  | succ j ih =>
    intro row p sv q h1 h2 h3
    unfold tg_y
    rw [ih (row + 1) _ sv q h1 (fun r hr => h2 r (by omega)) h3]
    exact gx_out f c y sh row nx 0 p sv q (fun i' hi => h1 i' (by omega)) (h2 row (by omega)) h3
set_option maxRecDepth 10000 in
set_option maxHeartbeats 2000000 in
theorem e_v63 {K : Int32 → Int32 → Int32 → mo_G → Option mo_G} {bk : Int32 → Int32 → Int32 → Int32 → Int32 → Int32 → mo_G → Option mo_G} {g : mo_G} {r0 : by_B} (he : by_eq r0 (g.2 9)) (ok : by_ok r0) (h384 : r0.1 ≤ 384) {c y0 ln hf lim k cu : Nat} {p : pi_P} {f t t' : Nat → Int32} (RSp : RS g p k) (G : GP p) (hc : c < p.2.2.1) (hen : pi_end p y0 3 = y0 + ln) (h4 : ln ≤ 4) (hy : y0 % 2 = 0) (hh : hf < lim) (hl2 : lim ≤ 2) (hS : SE p f) (hcu : cu + pi_ny p c y0 * (2 * pi_nx p c) ≤ r0.1) (hz : hf = 0 → ZC p c y0 ln) : ∃ f' t1, SE (tt_1 c y0 (16 * hf) (t, (r0.1, cu, r0.2.2), p)).2.2 f' ∧ (tt_1 c y0 (16 * hf) (t, (r0.1, cu, r0.2.2), p)).2.1 = (r0.1, cu + pi_ny p c y0 * (2 * pi_nx p c), r0.2.2) ∧ ch_ p (tt_1 c y0 (16 * hf) (t, (r0.1, cu, r0.2.2), p)).2.2 y0 (y0 + ln) ∧ (∀ q, (q < 64 * c ∨ 64 * c + 64 ≤ q) → (tt_1 c y0 (16 * hf) (t, (r0.1, cu, r0.2.2), p)).2.2.2.2.2.2.2.2 q = p.2.2.2.2.2.2 q) ∧ j_unwaves_63 K bk (nI y0) (nI ln) (nI c) (nI (pi_nx p c)) (nI (pi_ny p c y0)) (nI hf) (nI lim) (nI hf) (mo_sc (mo_tb g t') cu f) = bk (nI y0) (nI ln) (nI c) (nI (pi_nx p c)) (nI (pi_ny p c y0)) (nI (hf + 1)) (mo_sc (mo_tb g t1) (cu + pi_ny p c y0 * (2 * pi_nx p c)) f') := by
  have hl : y0 + ln ≤ p.2.1 := by rw [← hen]; exact pi_end_le _ _ _
  have hy8 := G.2.1.2
  have h3 := G.2.2.1
  have eny : pi_ny p c y0 = pi_on p c ln := by unfold pi_ny; rw [hen, Nat.add_sub_cancel_left]
  have hny : pi_ny p c y0 ≤ 4 := pi_ny_le _ _ _
  have hnx : pi_nx p c ≤ 8 := pi_nx_le _ _ G.1.2
  have z0 : pi_on p c 0 = 0 := by rcases st12 p c with ⟨_, z⟩ | ⟨_, z⟩ <;> rw [z]
  have rl : ∀ r, r < pi_ny p c y0 → r * pi_st p c < ln := by
    intro r hr
    rw [eny] at hr
    rcases st12 p c with ⟨a, b⟩ | ⟨a, b⟩
    · rw [a]; rw [b] at hr; omega
    · rw [a]; rw [b] at hr; omega
  unfold j_unwaves_63
  rw [if_neg (nI_ge hh (by omega))]
  obtain ⟨t1, a1, a2, a3⟩ := e_u69 (K := fun y17 y18 y19 y20 y21 y22 g16 => l_unwaves_119 (fun y25 y26 y27 y28 y29 y30 y31 g24 => l_unwaves_142 (fun y35 y36 y37 y38 y39 y40 g34 => j_unwaves_180 K bk y35 y36 y37 y38 y39 y40 g34) 2000 y25 y26 y27 y28 y29 y30 y31 g24) 2000 y17 y18 y19 y20 y21 y22 1 g16) he ok h384 (a1 := nI y0) (a2 := nI ln) (a3 := nI c) (a6 := nI hf) (f := f) hnx hny (pi_ny p c y0) 0 2000 cu t t' (fun r x _ h => by omega) (by omega) hcu (by omega)
  have hT0 : T_eq (pi_nx p c) (pi_ny p c y0) (tt_x p c y0 t (r0.1, cu, r0.2.2)).1 t1 := fun y hy x hx => a1 y x hx (Or.inl hy)
  obtain ⟨t2, b1, b2⟩ := e_lev (K := fun y35 y36 y37 y38 y39 y40 g34 => j_unwaves_180 K bk y35 y36 y37 y38 y39 y40 g34) (g := mo_sc g (cu + pi_ny p c y0 * (2 * pi_nx p c)) f) (a1 := nI y0) (a2 := nI ln) (a3 := nI c) (a6 := nI hf) hnx hny hT0
  obtain ⟨f', c1, c2⟩ := e_v186 (K := fun y58 y59 y60 y61 y62 y63 g57 => bk y58 y59 y60 y61 y62 (y63 + 1) g57) (g := g) (c := c) (y0 := y0) (ln := ln) (k := k) (hf := hf) (cu := cu + pi_ny p c y0 * (2 * pi_nx p c)) (nx := pi_nx p c) (ny := pi_ny p c y0) (sv := pi_st p c) (a5 := nI (pi_ny p c y0)) (by omega) hy b1 ln 0 2000 p f RSp G hc hl rfl eny rfl hS (by omega) (by omega) (fun z r x _ h5 h6 => by
    have hx := on_lt (p := p) (c := c) (i := x) G hc h6
    have := rl r h5
    exact hz z c (y0 + r * pi_st p c) (x * pi_st p c) (Nat.le_refl _) (by omega) (by omega) (by omega) (by have := G.1.2; omega))
  rw [z0, Nat.add_zero, nI_0] at c2
  rw [z0, Nat.sub_zero] at c1
  refine ⟨f', t2, c1, a2, ?_, ?_, ?_⟩
  · exact ch_gy _ c y0 (16 * hf) (pi_nx p c) (pi_ny p c y0) 0 p G hc rfl hy (pi_st p c) (y0 + ln) rfl (fun r hr => by have := rl r (by omega); omega)
  · intro q hq
    exact gy_out _ c y0 (16 * hf) (pi_nx p c) (pi_ny p c y0) 0 p (pi_st p c) q (fun i' hi => by have := on_lt (p := p) (c := c) (i := i') G hc hi; have := G.1.2; omega) (fun r hr => by have := rl r (by omega); omega) hq
  · rw [nI_0] at a3
    refine a3.trans ?_
    rw [mo_st_sw]
    refine b2.trans ?_
    unfold j_unwaves_180
    rw [← mo_st_sw]
    refine c2.trans ?_
    rw [nI_1]
