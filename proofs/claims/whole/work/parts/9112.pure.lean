set_option maxRecDepth 10000 in
set_option maxHeartbeats 2000000 in
theorem wr_b2_eq {T i : Nat} {b : by_B} (h : T + 2 * i + 1 < b.1) (hb : b.1 ≤ 1500) : wr_b2 T i b = (b.1, b.2.1, upd (upd b.2.2 (T + 2 * i) (nI b.1 &&& 255)) (T + 2 * i + 1) (nI (b.1 / 256))) := by
  have e1 : nI T + 2 * nI i = nI (T + 2 * i) := ix22 T i
  have e2 : by_chg b (nI T + 2 * nI i) (nI b.1) = (b.1, b.2.1, upd b.2.2 (T + 2 * i) (nI b.1 &&& 255)) := by
    rw [e1]
    unfold by_chg
    rw [if_neg (nI_pos (by omega)), if_pos (nI_lt (by omega) (by omega)), nI_clamp (by omega)]
  unfold wr_b2
  rw [e2, e1, nI_1]
  unfold by_chg
  have e3 := (sh8 (n := b.1) (by omega)).2
  rw [if_neg (nI_pos (by omega)), if_pos (nI_lt (by omega) (by show b.1 < 2 ^ 31; omega)), nI_clamp (by omega)]
  show (b.1, b.2.1, upd _ _ (mj_ush (nI b.1) (8 * nI 1) &&& 255)) = _
  rw [e3]
set_option maxRecDepth 10000 in
set_option maxHeartbeats 2000000 in
theorem e_lines (k : Nat) (hk : k < 4) : r_linesOf (nI k) = some (nI (rf_ln k)) := by
  unfold r_linesOf rf_ln
  by_cases q : k < 2
  · rw [if_pos q, if_neg (show ¬ ((2 : Int32) ≤ nI k) from nI_ge (b := 2) q (by omega))]
    rfl
  · rw [if_neg q, if_pos (show ((2 : Int32) ≤ nI k) from nI_le (a := 2) (by omega) (by omega))]
    rfl
set_option maxRecDepth 10000 in
set_option maxHeartbeats 2000000 in
theorem e_e178 {K : mo_G → Option (Prod Int32 mo_G)} {g0 : mo_G} {p : pi_P} (R : RP g0 p) (G : GP p) {k T : Nat} (hk : k < 4) (hT : T + 2 * pi_chs p k ≤ 1500) : ∀ (j i N : Nat) (x : wr_X) (g : mo_G), i + j = pi_chs p k → j < N → Fr g0 g → FX g x.1 (T + 2 * i) (T + 2 * pi_chs p k) → T + 2 * pi_chs p k ≤ x.1.1 → x.1.1 + 3 * j + 96 * (p.2.1 - i * rf_ln k) ≤ 1000 → ∃ g', l_encode_178 K N (nI k) (nI (rf_ln k)) (nI i) (nI T) (nI (i * rf_ln k)) g = K g' ∧ Fr g0 g' ∧ FX g' (wr_lp p k T j i x).1 (T + 2 * pi_chs p k) (T + 2 * pi_chs p k) ∧ (wr_lp p k T j i x).1.1 ≤ 1000 := by
  have h8 := G.2.1.2
  have hln : rf_ln k = 1 ∧ pi_chs p k = p.2.1 ∨ (rf_ln k = 4 ∧ pi_chs p k = (p.2.1 + 3) / 4) := by
    unfold rf_ln pi_chs
    by_cases q : k < 2
    · rw [if_pos q, if_pos q]; exact Or.inl ⟨rfl, rfl⟩
    · rw [if_neg q, if_neg q]; exact Or.inr ⟨rfl, rfl⟩
  intro j
  induction j with
  | zero =>
    intro i N x g hi hN F X hx hb
    obtain ⟨N, rfl⟩ : ∃ m, N = m + 1 := ⟨N - 1, by omega⟩
    refine ⟨g, ?_, F, ?_, by show x.1.1 ≤ _; omega⟩
    · rw [l_encode_178, (F.RP R).2.1, if_pos (nI_le (by rcases hln with ⟨a, b⟩ | ⟨a, b⟩ <;> rw [a] <;> omega) (by rcases hln with ⟨a, b⟩ | ⟨a, b⟩ <;> rw [a] <;> omega))]
    · have e : i = pi_chs p k := by omega
      rw [e] at X
      exact X
  | succ j ih =>
    intro i N x g hi hN F X hx hb
    obtain ⟨N, rfl⟩ : ∃ m, N = m + 1 := ⟨N - 1, by omega⟩
    have hy : i * rf_ln k < p.2.1 := by rcases hln with ⟨a, b⟩ | ⟨a, b⟩ <;> rw [a] <;> omega
    have hTi : T + 2 * i + 1 < x.1.1 := by omega
    rw [l_encode_178, (F.RP R).2.1, if_neg (nI_ge hy (by omega)), ix22, og_t (vp_in_nI (by omega) (by decide)), nI_1, og_t (vp_in_nI (by omega) (by decide)), nI_clamp (by omega), nI_clamp (by omega), X.1, pk_sub (by omega), e_least _ _ (by rcases hln with ⟨a, b⟩ | ⟨a, b⟩ <;> rw [a] <;> omega) (by omega), Option.bind_some, (sh8 (n := x.1.1) (by omega)).1]
    have he : pi_end p (i * rf_ln k) k = i * rf_ln k + wv_min (rf_ln k) (p.2.1 - i * rf_ln k) := by
      unfold pi_end wv_min
      split <;> split <;> omega
    have hl4 : wv_min (rf_ln k) (p.2.1 - i * rf_ln k) ≤ 4 := by
      unfold wv_min
      rcases hln with ⟨a, b⟩ | ⟨a, b⟩ <;> rw [a] <;> split <;> omega
    have hb2 := wr_b2_eq (T := T) (i := i) (b := x.1) hTi (by omega)
    have X2 : FX (g.1, mo_uA g.2 4 (upd (upd (g.2 4) (T + 2 * i) (nI x.1.1 &&& 255)) (T + 2 * i + 1) (nI (x.1.1 / 256)))) (wr_b2 T i x.1) (T + 2 * (i + 1)) (T + 2 * pi_chs p k) := by
      rw [hb2]
      refine ⟨X.1, fun m hm hq => ?_⟩
      show upd (upd (g.2 4) (T + 2 * i) _) (T + 2 * i + 1) _ m = upd (upd x.1.2.2 (T + 2 * i) _) (T + 2 * i + 1) _ m
      by_cases z1 : m = T + 2 * i + 1
      · rw [z1, ux_s, ux_s]
      · rw [ux_n z1, ux_n z1]
        by_cases z2 : m = T + 2 * i
        · rw [z2, ux_s, ux_s]
        · rw [ux_n z2, ux_n z2]
          exact X.2 m hm (by omega)
    have F2 : Fr g (g.1, mo_uA g.2 4 (upd (upd (g.2 4) (T + 2 * i) (nI x.1.1 &&& 255)) (T + 2 * i + 1) (nI (x.1.1 / 256)))) := ⟨fun _ _ _ => Eq.refl _, fun j hj => uA_n (by omega)⟩
    have hb21 : (wr_b2 T i x.1).1 = x.1.1 := wr_b2_le _ _ _
    obtain ⟨g', c1, c2, c3, c4, c5⟩ := e_chunk ((F.tr F2).RP R) G (k := k) (y0 := i * rf_ln k) (ln := wv_min (rf_ln k) (p.2.1 - i * rf_ln k)) hk he hl4 (fun z => by rw [z]; show i * 4 % 2 = 0; omega) (by omega) x.2.1 x.2.2.1 x.2.2.2.1 x.2.2.2.2 (wr_b2 T i x.1) X2 (by omega)
    rw [c1, Option.bind_some]
    rw [hb21] at c4 c5
    obtain ⟨g2, d1, d2, d3, d4⟩ := ih (i + 1) N (wr_st p k T i x) g' (by omega) (by omega) (F.tr (F2.tr c2)) c3 (by show _ ≤ (wr_b5 _ _ _).1; exact Nat.le_trans hx c5) (by
      show (wr_b5 _ _ _).1 + _ + _ ≤ _
      refine Nat.le_trans (Nat.add_le_add_right (Nat.add_le_add_right c4 _) _) ?_
      unfold wv_min
      rcases hln with ⟨a, b⟩ | ⟨a, b⟩ <;> rw [a] at hb hy ⊢ <;> split <;> omega)
    refine ⟨g2, ?_, d2, d3, d4⟩
    rw [← d1, Nat.add_mul, Nat.one_mul, nI_add, nI_1]
def GL (p : pi_P) : Prop := ∀ c, c < p.2.2.1 → ∃ j, 97 ≤ j ∧ j ≤ 122 ∧ p.2.2.2.1 c = nI j
set_option maxRecDepth 10000 in
set_option maxHeartbeats 2000000 in
theorem GP.ty {p : pi_P} (G : GP p) {c : Nat} (hc : c < p.2.2.1) : p.2.2.2.2.1 c &&& 255 = p.2.2.2.2.1 c ∧ p.2.2.2.2.2.1 c &&& 255 = p.2.2.2.2.2.1 c := by
  obtain ⟨h1, h2⟩ := G.2.2.2 c hc
  constructor
  · rcases h2 with q | q | q <;> rw [q] <;> decide
  · rcases h1 with q | q <;> rw [q] <;> decide
set_option maxRecDepth 10000 in
set_option maxHeartbeats 2000000 in
theorem e_e97 {K : Int32 → mo_G → Option (Prod Int32 mo_G)} {g : mo_G} {p : pi_P} (R : RP g p) (G : GP p) (L : GL p) {a1 : Int32} : ∀ (j c N : Nat) (b : by_B) (f : Nat → Int32), by_eq b f → c + j = p.2.2.1 → b.1 + 3 * j ≤ 1500 → j < N → ∃ f', by_eq (wr_ch p j c b) f' ∧ (wr_ch p j c b).1 = b.1 + 3 * j ∧ l_encode_97 K N a1 (nI c) (mo_fl g b.1 f) = K a1 (mo_fl g (b.1 + 3 * j) f') := by
  have h3 := G.2.2.1
  intro j
  induction j with
  | zero =>
    intro c N b f hf hi hb hN
    obtain ⟨N, rfl⟩ : ∃ m, N = m + 1 := ⟨N - 1, by omega⟩
    refine ⟨f, hf, rfl, ?_⟩
    rw [l_encode_97, show (mo_fl g b.1 f).1 2 = nI p.2.2.1 from R.2.2.1, if_pos (nI_le (by omega) (by omega))]
    rfl
  | succ j ih =>
    intro c N b f hf hi hb hN
    obtain ⟨N, rfl⟩ : ∃ m, N = m + 1 := ⟨N - 1, by omega⟩
    have hc : c < p.2.2.1 := by omega
    obtain ⟨l, l1, l2, l3⟩ := L c hc
    have t1 := G.ty hc
    have L1 : (by_add 1500 b (p.2.2.2.1 c)).1 = b.1 + 1 := by_add_1 (by omega)
    have L2 : (by_add 1500 (by_add 1500 b (p.2.2.2.1 c)) (p.2.2.2.2.1 c)).1 = b.1 + 2 := by rw [by_add_1 (by omega), L1]
    have L3 : (by_add 1500 (by_add 1500 (by_add 1500 b (p.2.2.2.1 c)) (p.2.2.2.2.1 c)) (p.2.2.2.2.2.1 c)).1 = b.1 + 3 := by rw [by_add_1 (by omega), L2]
    have E1 := by_eq_cons (N := 1500) (x := p.2.2.2.1 c) (y := p.2.2.2.1 c) hf (by omega) (by rw [l3, b255 (by omega)])
    have E2 := by_eq_cons (N := 1500) E1 (by omega) t1.1
    have E3 := by_eq_cons (N := 1500) E2 (by omega) t1.2
    obtain ⟨f', h1, h2, h4⟩ := ih (c + 1) N _ _ E3 (by omega) (by omega) (by omega)
    rw [L3] at h2 h4
    refine ⟨f', h1, by unfold wr_ch; rw [h2]; omega, ?_⟩
    have r0 := (R.2.2.2.1 c hc).1
    have r1 := (R.2.2.2.1 c hc).2.1
    have r2 := (R.2.2.2.1 c hc).2.2
    rw [l_encode_97, show (mo_fl g b.1 f).1 2 = nI p.2.2.1 from R.2.2.1, if_neg (nI_ge (by omega) (by omega)), og_t (vp_in_nI (by omega) (by decide)), nI_clamp (by omega)]
    rw [show (mo_fl g b.1 f).2 0 c = p.2.2.2.1 c from r0, e_write (by omega), Option.bind_some, og_t (vp_in_nI (by omega) (by decide))]
    rw [show ∀ n f, (mo_fl g n f).2 1 c = p.2.2.2.2.1 c from fun _ _ => r1, e_write (by omega), Option.bind_some, og_t (vp_in_nI (by omega) (by decide))]
    rw [show ∀ n f, (mo_fl g n f).2 2 c = p.2.2.2.2.2.1 c from fun _ _ => r2, e_write (by omega), Option.bind_some, nI_1]
    rw [show b.1 + 3 * (j + 1) = b.1 + 3 + 3 * j by omega, ← h4, L1, L2]
set_option maxRecDepth 10000 in
set_option maxHeartbeats 2000000 in
theorem mgv : mj_mg 0 = 118 ∧ mj_mg 1 = 47 ∧ mj_mg 2 = 49 ∧ mj_mg 3 = 1 := ⟨rfl, rfl, rfl, rfl⟩
set_option maxRecDepth 10000 in
set_option maxHeartbeats 2000000 in
theorem e_in (x lo hi : Int32) : r_in x lo hi = some (if x < lo then 0 else if hi < x then 0 else 1) := by
  unfold r_in j_in_14
  split
  · rfl
  · split <;> rfl
set_option maxRecDepth 10000 in
set_option maxHeartbeats 2000000 in
theorem addZ_eq : ∀ (j i : Nat) (b : by_B), b.1 + j ≤ 1500 → (by_addN 1500 0 j i b).1 = b.1 + j ∧ ∀ k, k < b.1 → (by_addN 1500 0 j i b).2.2 k = b.2.2 k := by
  intro j
  induction j with
  | zero => intro i b h; exact ⟨rfl, fun _ _ => rfl⟩
  | succ j ih =>
    intro i b h
    unfold by_addN
    have L1 : (by_add 1500 b (mj_ush 0 (8 * nI i))).1 = b.1 + 1 := by_add_1 (by omega)
    obtain ⟨h1, h2⟩ := ih (i + 1) (by_add 1500 b (mj_ush 0 (8 * nI i))) (by omega)
    refine ⟨by rw [h1]; omega, fun k hk => ?_⟩
    rw [h2 k (by omega)]
    unfold by_add
    rw [if_pos (by omega)]
    exact ux_n (by omega)
set_option maxRecDepth 10000 in
set_option maxHeartbeats 2000000 in
theorem e_encode {g : mo_G} {p : pi_P} (R : RP g p) (G : GP p) (L : GL p) {k : Nat} (hk : k < 4) (hc : ¬ p.2.2.1 = 0) (x : wr_X) : ∃ g', r_encode (nI k) g = some (nI (wr_wr p k x).1.1, g') ∧ Fr (upd g.1 5 0, g.2) g' ∧ g'.1 3 = nI (wr_wr p k x).1.1 ∧ by_eq (wr_wr p k x).1 (g'.2 4) ∧ (wr_wr p k x).1.1 ≤ 1000 := by
  have h3 := G.2.2.1
  have h8 := G.2.1.2
  have hch : pi_chs p k ≤ 8 := by unfold pi_chs; split <;> omega
  have R0 : RP (upd g.1 5 0, g.2) p := R
  unfold r_encode
  rw [e_in, Option.bind_some, if_neg (nI_pos (by omega)), if_neg (show ¬ (3 : Int32) < nI k from nI_nlt (a := 3) (by omega) (by omega)), if_neg (by decide), R.2.2.1, if_neg (nI_ne0 (by omega) (by omega))]
  have e0 : (upd (upd g.1 5 0) 3 0, g.2) = mo_fl (upd g.1 5 0, g.2) 0 (g.2 4) := by
    unfold mo_fl
    refine Prod.ext rfl ?_
    funext i
    show g.2 i = mo_uA g.2 4 (g.2 4) i
    by_cases q : i = 4
    · rw [q, uA_s]
    · exact (uA_n q).symm
  have w0 : ∀ n f, (mo_fl (upd g.1 5 0, g.2) n f).1 0 = nI p.1 := fun _ _ => R.1
  have w1 : ∀ n f, (mo_fl (upd g.1 5 0, g.2) n f).1 1 = nI p.2.1 := fun _ _ => R.2.1
  have w2 : ∀ n f, (mo_fl (upd g.1 5 0, g.2) n f).1 2 = nI p.2.2.1 := fun _ _ => R.2.2.1
  have w3 : ∀ n f, (mo_fl (upd g.1 5 0, g.2) n f).1 3 = nI n := fun _ _ => rfl
  rw [e0, e_write (by omega), Option.bind_some, e_write (by omega), Option.bind_some, e_write (by omega), Option.bind_some, e_write (by omega), Option.bind_some, e_write (by omega), Option.bind_some, w0, e_write (by omega), Option.bind_some, w1, e_write (by omega), Option.bind_some, e_write (by omega), Option.bind_some, w2, e_write (by omega), Option.bind_some]
  have A0 : by_eq ((0, 0, x.1.2.2) : by_B) (g.2 4) := fun k hk => absurd hk (Nat.not_lt_zero k)
  have A1 := by_eq_cons (N := 1500) (x := mj_mg 0) (y := 118) A0 (by show 0 < 1500; omega) rfl
  have A2 := by_eq_cons (N := 1500) (x := mj_mg 1) (y := 47) A1 (by show 1 < 1500; omega) rfl
  have A3 := by_eq_cons (N := 1500) (x := mj_mg 2) (y := 49) A2 (by show 2 < 1500; omega) rfl
  have A4 := by_eq_cons (N := 1500) (x := mj_mg 3) (y := 1) A3 (by show 3 < 1500; omega) rfl
  have A5 := by_eq_cons (N := 1500) (x := 2) (y := 2) A4 (by show 4 < 1500; omega) rfl
  have A6 := by_eq_cons (N := 1500) (x := nI p.1) (y := nI p.1) A5 (by show 5 < 1500; omega) (b255 (by have := G.1.2; omega))
  have A7 := by_eq_cons (N := 1500) (x := nI p.2.1) (y := nI p.2.1) A6 (by show 6 < 1500; omega) (b255 (by omega))
  have A8 := by_eq_cons (N := 1500) (x := nI k) (y := nI k) A7 (by show 7 < 1500; omega) (b255 (by omega))
  have A9 := by_eq_cons (N := 1500) (x := nI p.2.2.1) (y := nI p.2.2.1) A8 (by show 8 < 1500; omega) (b255 (by omega))
  obtain ⟨f1, h1, h2, h4⟩ := e_e97 (K := fun y18 g17 => (r_linesOf y18).bind (fun z19 => og (¬ z19 = 0) (l_encode_178 (fun  g25 => some ((g25.1 3), g25)) 2000 y18 z19 0 (g17.1 3) 0 (upd g17.1 3 (((g17.1 3) + ((2 * (((((((g17.1 1) + z19)) - 1)) / z19)))))), g17.2)))) R0 G L (a1 := nI k) p.2.2.1 0 2000 _ _ A9 (by omega) (by show 9 + _ ≤ _; omega) (by omega)
  have hd : wr_hd p k (0, 0, x.1.2.2) = wr_ch p p.2.2.1 0 (by_add 1500 (by_add 1500 (by_add 1500 (by_add 1500 (by_add 1500 (by_add 1500 (by_add 1500 (by_add 1500 (by_add 1500 (0, 0, x.1.2.2) (mj_mg 0)) (mj_mg 1)) (mj_mg 2)) (mj_mg 3)) 2) (nI p.1)) (nI p.2.1)) (nI k)) (nI p.2.2.1)) := rfl
  rw [← hd] at h1 h2
  have hT : (wr_hd p k (0, 0, x.1.2.2)).1 = 9 + 3 * p.2.2.1 := h2
  refine Exists.imp (fun g' => And.imp_left (fun e => Eq.trans h4 e)) ?_
  have hln : rf_ln k = 1 ∧ pi_chs p k = p.2.1 ∨ (rf_ln k = 4 ∧ pi_chs p k = (p.2.1 + 3) / 4) := by
    unfold rf_ln pi_chs
    by_cases q : k < 2
    · rw [if_pos q, if_pos q]; exact Or.inl ⟨rfl, rfl⟩
    · rw [if_neg q, if_neg q]; exact Or.inr ⟨rfl, rfl⟩
  have hch2 : (nI p.2.1 + nI (rf_ln k) - 1) / nI (rf_ln k) = nI (pi_chs p k) := by
    rw [nI_add]
    rcases hln with ⟨a, b⟩ | ⟨a, b⟩
    · rw [a, b, nI_pred, pk_div (by omega) (by omega) (by omega), Nat.div_one]
    · rw [a, b, show p.2.1 + 4 = (p.2.1 + 3) + 1 from rfl, nI_pred, pk_div (by omega) (by omega) (by omega)]
  rw [e_lines k hk, Option.bind_some, og_t (by rcases hln with ⟨a, _⟩ | ⟨a, _⟩ <;> rw [a] <;> decide), w1, w3, hch2]
  obtain ⟨z1, z2⟩ := addZ_eq (2 * pi_chs p k) 0 (wr_hd p k (0, 0, x.1.2.2)) (by omega)
  have e9 : (by_add 1500 (by_add 1500 (by_add 1500 (by_add 1500 (by_add 1500 (by_add 1500 (by_add 1500 (by_add 1500 (by_add 1500 (0, 0, x.1.2.2) (mj_mg 0)) (mj_mg 1)) (mj_mg 2)) (mj_mg 3)) 2) (nI p.1)) (nI p.2.1)) (nI k)) (nI p.2.2.1)).1 = 9 := rfl
  rw [e9, show (2 : Int32) = nI 2 from rfl, pk_mul, nI_add, ← hT]
  obtain ⟨g', d1, d2, d3, d4⟩ := e_e178 (K := fun g25 => some ((g25.1 3), g25)) R0 G (T := (wr_hd p k (0, 0, x.1.2.2)).1) hk (by omega) (pi_chs p k) 0 2000 (by_addN 1500 0 (2 * pi_chs p k) 0 (wr_hd p k (0, 0, x.1.2.2)), x.2) (mo_fl (upd g.1 5 0, g.2) ((wr_hd p k (0, 0, x.1.2.2)).1 + 2 * pi_chs p k) f1) (by omega) (by omega) Fr.fl ⟨by show nI _ = _; rw [z1], fun m hm hq => by
    have hm2 : m < (by_addN 1500 0 (2 * pi_chs p k) 0 (wr_hd p k (0, 0, x.1.2.2))).1 := hm
    show f1 m = (by_addN 1500 0 (2 * pi_chs p k) 0 (wr_hd p k (0, 0, x.1.2.2))).2.2 m
    rw [z2 m (by omega)]
    exact h1 m (by omega)⟩ (by show _ ≤ (by_addN 1500 0 (2 * pi_chs p k) 0 (wr_hd p k (0, 0, x.1.2.2))).1; omega) (by show (by_addN 1500 0 (2 * pi_chs p k) 0 (wr_hd p k (0, 0, x.1.2.2))).1 + _ + _ ≤ _; omega)
  refine ⟨g', ?_, d2, d3.1, fun m hm => d3.2 m hm (by omega), d4⟩
  rw [Nat.zero_mul] at d1
  have d5 : (g'.1 3, g') = (nI (wr_wr p k x).1.1, g') := by rw [d3.1]; rfl
  rw [d5] at d1
  refine Eq.trans ?_ d1
  show l_encode_178 _ 2000 _ _ 0 _ 0 (upd (upd (upd g.1 5 0) 3 _) 3 _, mo_uA g.2 4 f1) = _
  rw [ux]
  rfl
