def dnc (p : pi_P) (c y0 : Nat) : Nat → Nat
  | 0 => 0
  | t + 1 => dnc p c y0 t + if p.2.2.2.2.2.1 c = 1 ∨ (y0 + t) % 2 = 0 then 1 else 0
set_option maxRecDepth 10000 in
set_option maxHeartbeats 2000000 in
theorem dnc_le (p : pi_P) (c y0 : Nat) : ∀ t, dnc p c y0 t ≤ t
  | 0 => Nat.le_refl _
  | t + 1 => by unfold dnc; have := dnc_le p c y0 t; split <;> omega
set_option maxRecDepth 10000 in
set_option maxHeartbeats 2000000 in
theorem dnc_on (p : pi_P) (c y0 : Nat) (hy : y0 % 2 = 0) : ∀ t, dnc p c y0 t = pi_on p c t
  | 0 => by rcases st12 p c with ⟨_, z⟩ | ⟨_, z⟩ <;> rw [z] <;> rfl
  | t + 1 => by unfold dnc; rw [dnc_on p c y0 hy t, on_succ p c y0 t hy]
set_option maxRecDepth 10000 in
set_option maxHeartbeats 2000000 in
theorem e_dn5G {K : Int32 → Option Int32} {p : pi_P} {c y0 ln : Nat} (hl : y0 + ln ≤ 40) : ∀ (m t N : Nat), t + m = ln → m < N → l_down_5 K N (nI y0) (nI ln) (nI (pi_st p c)) (nI (dnc p c y0 t)) (nI (y0 + t)) = K (nI (dnc p c y0 ln)) := by
  intro m
  induction m with
  | zero =>
    intro t N ht hN
    obtain ⟨N, rfl⟩ : ∃ m, N = m + 1 := ⟨N - 1, by omega⟩
    rw [l_down_5, nI_add, if_pos (nI_le (by omega) (by omega)), show t = ln by omega]
  | succ m ih =>
    intro t N ht hN
    obtain ⟨N, rfl⟩ : ∃ m, N = m + 1 := ⟨N - 1, by omega⟩
    have hs : ¬ nI (pi_st p c) = 0 := by rcases st12 p c with ⟨q, _⟩ | ⟨q, _⟩ <;> rw [q] <;> decide
    have := ih (t + 1) N (by omega) (by omega)
    rw [l_down_5, nI_add, if_neg (nI_ge (by omega) (by omega)), og_t hs]
    unfold j_down_23
    rw [nI_1, nI_1, Nat.add_assoc]
    have iff : (nI (y0 + t) - nI (y0 + t) / nI (pi_st p c) * nI (pi_st p c) = 0) ↔ (p.2.2.2.2.2.1 c = 1 ∨ (y0 + t) % 2 = 0) := by
      rw [pk_rem (by omega) (by rcases st12 p c with ⟨q, _⟩ | ⟨q, _⟩ <;> omega) (by rcases st12 p c with ⟨q, _⟩ | ⟨q, _⟩ <;> omega)]
      unfold pi_st
      by_cases q : p.2.2.2.2.2.1 c = 1
      · simp only [q, if_true, true_or, Nat.mod_one, iff_true]
        rfl
      · simp only [q, if_false, false_or]
        rw [← nI_0, nI_eq (by omega) (by omega)]
    by_cases q : p.2.2.2.2.2.1 c = 1 ∨ (y0 + t) % 2 = 0
    · rw [if_pos (iff.mpr q), ← this]
      show _ = l_down_5 K N _ _ _ (nI (dnc p c y0 (t + 1))) _
      rw [show dnc p c y0 (t + 1) = dnc p c y0 t + 1 by rw [dnc, if_pos q]]
    · rw [if_neg (fun z => q (iff.mp z)), ← this]
      show _ = l_down_5 K N _ _ _ (nI (dnc p c y0 (t + 1))) _
      rw [show dnc p c y0 (t + 1) = dnc p c y0 t by rw [dnc, if_neg q]; rfl]
set_option maxRecDepth 10000 in
set_option maxHeartbeats 2000000 in
theorem e_downG {p : pi_P} {c y0 ln : Nat} (hl : y0 + ln ≤ 40) : r_down (nI y0) (nI ln) (nI (pi_st p c)) = some (nI (dnc p c y0 ln)) :=
  e_dn5G (K := fun y3 => some y3) (p := p) (c := c) hl ln 0 2000 (by omega) (by omega)
def wsD (p : pi_P) (k y0 t : Nat) : Nat → Nat → Nat
  | 0, _ => 0
  | j + 1, c => dnc p c y0 t * (pi_on p c p.1 * rf_by (p.2.2.2.2.1 c) k) + wsD p k y0 t j (c + 1)
set_option maxRecDepth 10000 in
set_option maxHeartbeats 2000000 in
theorem rwC_wD (p : pi_P) (k y0 t : Nat) : ∀ (j c z : Nat), pi_rwC p k (y0 + t) j c z + wsD p k y0 t j c = z + wsD p k y0 (t + 1) j c := by
  intro j
  induction j with
  | zero => intro c z; rfl
  | succ j ih =>
    intro c z
    unfold pi_rwC wsD
    have := ih (c + 1) (if p.2.2.2.2.2.1 c = 1 ∨ (y0 + t) % 2 = 0 then z + pi_on p c p.1 * rf_by (p.2.2.2.2.1 c) k else z)
    rw [dnc, Nat.add_mul]
    by_cases q : p.2.2.2.2.2.1 c = 1 ∨ (y0 + t) % 2 = 0
    · rw [if_pos q] at this ⊢
      rw [if_pos q, Nat.one_mul]
      omega
    · rw [if_neg q] at this ⊢
      rw [if_neg q, Nat.zero_mul]
      omega
set_option maxRecDepth 10000 in
set_option maxHeartbeats 2000000 in
theorem rwY_wD (p : pi_P) (k y0 : Nat) : ∀ (m t z : Nat), pi_rwY p k m (y0 + t) z + wsD p k y0 t p.2.2.1 0 = z + wsD p k y0 (t + m) p.2.2.1 0 := by
  intro m
  induction m with
  | zero => intro t z; rfl
  | succ m ih =>
    intro t z
    unfold pi_rwY
    have h1 := ih (t + 1) (pi_rwC p k (y0 + t) p.2.2.1 0 z)
    have h2 := rwC_wD p k y0 t p.2.2.1 0 z
    rw [show y0 + t + 1 = y0 + (t + 1) by omega, show t + (m + 1) = t + 1 + m by omega]
    omega
set_option maxRecDepth 10000 in
set_option maxHeartbeats 2000000 in
theorem wD0 (p : pi_P) (k y0 : Nat) : ∀ (j c : Nat), wsD p k y0 0 j c = 0 := by
  intro j
  induction j with
  | zero => intro c; rfl
  | succ j ih =>
    intro c
    unfold wsD
    rw [ih, show dnc p c y0 0 = 0 from rfl, Nat.zero_mul]
set_option maxRecDepth 10000 in
set_option maxHeartbeats 2000000 in
theorem raw_wD (p : pi_P) (k y0 ln : Nat) : pi_rwY p k ln y0 0 = wsD p k y0 ln p.2.2.1 0 := by
  have := rwY_wD p k y0 ln 0 0
  rw [wD0, Nat.add_zero, Nat.add_zero, Nat.zero_add, Nat.zero_add] at this
  exact this
set_option maxRecDepth 10000 in
set_option maxHeartbeats 2000000 in
theorem e_w5 {K : Int32 → mo_G → Option (Prod Int32 mo_G)} {g : mo_G} {p : pi_P} (R : RN g p) (G : GP p) {k y0 ln : Nat} (h12 : g.1 12 = nI p.2.2.1) (h13 : g.1 13 = nI k) (hk : k < 4) (hl : y0 + ln ≤ 40) : ∀ (j c z N : Nat), c + j = p.2.2.1 → j < N → l_wanted_5 K N (nI y0) (nI ln) (nI z) (nI c) g = K (nI (z + wsD p k y0 ln j c)) g := by
  have h3 := G.2.2.1
  intro j
  induction j with
  | zero =>
    intro c z N hc hN
    obtain ⟨N, rfl⟩ : ∃ m, N = m + 1 := ⟨N - 1, by omega⟩
    rw [l_wanted_5, h12, if_pos (nI_le (by omega) (by omega))]
    rfl
  | succ j ih =>
    intro c z N hc hN
    obtain ⟨N, rfl⟩ : ∃ m, N = m + 1 := ⟨N - 1, by omega⟩
    have hcc : c < p.2.2.1 := by omega
    have gc := vp_in_nI (n := c) (N := 3) (by omega) (by decide)
    have cc : (nI c).toNatClampNeg = c := nI_clamp (by omega)
    obtain ⟨_, r6, r7⟩ := R.2.2.1 c hcc
    rw [l_wanted_5, h12, if_neg (nI_ge (by omega) (by omega)), og_t gc, cc, r7, R.1, st_eq G hcc, e_across G.1.2, Option.bind_some, og_t gc, e_downG hl, Option.bind_some, og_t gc, r6, h13]
    unfold j_wanted_70 wsD
    rw [nI_1, pk_mul]
    have key : ∀ B : Nat, B = rf_by (p.2.2.2.2.1 c) k → l_wanted_5 K N (nI y0) (nI ln) (nI z + nI (pi_on p c p.1 * dnc p c y0 ln) * nI B) (nI (c + 1)) g = K (nI (z + (dnc p c y0 ln * (pi_on p c p.1 * rf_by (p.2.2.2.2.1 c) k) + wsD p k y0 ln j (c + 1)))) g := by
      intro B hB
      rw [pk_mul, nI_add, ih (c + 1) _ N (by omega) (by omega), hB]
      rw [show pi_on p c p.1 * dnc p c y0 ln * rf_by (p.2.2.2.2.1 c) k = dnc p c y0 ln * (pi_on p c p.1 * rf_by (p.2.2.2.2.1 c) k) by rw [Nat.mul_comm (pi_on p c p.1), Nat.mul_assoc], Nat.add_assoc]
    by_cases q : p.2.2.2.2.1 c = 1
    · rw [if_pos q]
      by_cases q2 : k = 2
      · rw [if_pos (show nI k = 2 by rw [q2]; rfl)]
        exact key 3 (by unfold rf_by; rw [if_pos q, if_pos q2])
      · rw [if_neg (show ¬ nI k = 2 from fun w => q2 (by rw [show (2 : Int32) = nI 2 from rfl, nI_eq (by omega) (by omega)] at w; exact w))]
        exact key 4 (by unfold rf_by; rw [if_pos q, if_neg q2])
    · rw [if_neg q]
      exact key 2 (by unfold rf_by; rw [if_neg q])
set_option maxRecDepth 10000 in
set_option maxHeartbeats 2000000 in
theorem e_wanted {g : mo_G} {p : pi_P} (R : RN g p) (G : GP p) {k y0 ln : Nat} (h12 : g.1 12 = nI p.2.2.1) (h13 : g.1 13 = nI k) (hk : k < 4) (hl : y0 + ln ≤ 40) : r_wanted (nI y0) (nI ln) g = some (nI (pi_rwY p k ln y0 0), g) := by
  have := e_w5 (K := fun y7 g6 => some (y7, g6)) R G (y0 := y0) (ln := ln) h12 h13 hk hl p.2.2.1 0 0 2000 (by omega) (by have := G.2.2.1; omega)
  rw [Nat.zero_add, ← raw_wD] at this
  exact this
def mo_un (g : mo_G) (pl n : Nat) (f : Nat → Int32) : mo_G := (upd (upd g.1 6 (nI n)) 8 (nI pl), mo_uA g.2 10 f)
set_option maxRecDepth 10000 in
set_option maxHeartbeats 2000000 in
theorem e_u102 {K : Int32 → Int32 → Int32 → mo_G → Option mo_G} {g : mo_G} {b2 : by_B} (I : FI g b2) {pl v mk : Nat} {x1 x2 x5 : Int32} (hv : v < 256) (hin : if v < 128 then pl + 1 < b2.1 else pl + mk < b2.1) (hm : mk ≤ 128) : ∀ (j i N : Nat) (b : by_B) (f : Nat → Int32), by_eq b f → i + j = mk → b.1 + j ≤ 384 → j < N → ∃ f', by_eq (pa_up1 b2 pl v j i b) f' ∧ (pa_up1 b2 pl v j i b).1 = b.1 + j ∧ l_unpack_102 K N x1 x2 (nI v) (nI mk) x5 (nI i) (mo_un g pl b.1 f) = K x1 x2 x5 (mo_un g pl (b.1 + j) f') := by
  have hl := I.2.2.1
  intro j
  induction j with
  | zero =>
    intro i N b f hf hi hb hN
    obtain ⟨N, rfl⟩ : ∃ m, N = m + 1 := ⟨N - 1, by omega⟩
    refine ⟨f, hf, rfl, ?_⟩
    rw [l_unpack_102, if_pos (nI_le (by omega) (by omega))]
    rfl
  | succ j ih =>
    intro i N b f hf hi hb hN
    obtain ⟨N, rfl⟩ : ∃ m, N = m + 1 := ⟨N - 1, by omega⟩
    have hq : (if v < 128 then pl + 1 else pl + 1 + i) < b2.1 := by split at hin <;> simp only [*, if_true, if_false] <;> omega
    obtain ⟨a1, a2, a3⟩ := I.at hq
    have e255 : by_get b2 (nI (if v < 128 then pl + 1 else pl + 1 + i)) &&& 255 = nI (by_h b2 (if v < 128 then pl + 1 else pl + 1 + i)) := by rw [a3, b255 a2]
    obtain ⟨f', h1, h2, h3⟩ := ih (i + 1) N _ _ (by_eq_cons (N := 384) hf (by omega) e255) (by omega) (by rw [by_add_1 (by omega)]; omega) (by omega)
    rw [by_add_1 (by omega)] at h2 h3
    refine ⟨f', h1, by show (pa_up1 b2 pl v j (i + 1) _).1 = _; rw [h2]; omega, ?_⟩
    rw [show b.1 + (j + 1) = b.1 + 1 + j by omega, ← h3, l_unpack_102, if_neg (nI_ge (by omega) (by omega))]
    have key : ∀ o : Nat, pl + o = (if v < 128 then pl + 1 else pl + 1 + i) → j_unpack_140 K (fun x1 x2 x3 x4 x5 x6 g => l_unpack_102 K N x1 x2 x3 x4 x5 x6 g) x1 x2 (nI v) (nI mk) x5 (nI i) (nI o) ((mo_un g pl b.1 f).1 8) ((mo_un g pl b.1 f).1 6) (mo_un g pl b.1 f) = l_unpack_102 K N x1 x2 (nI v) (nI mk) x5 (nI (i + 1)) (mo_un g pl (b.1 + 1) (upd f b.1 (nI (by_h b2 (if v < 128 then pl + 1 else pl + 1 + i))))) := by
      intro o ho
      unfold j_unpack_140
      rw [show (mo_un g pl b.1 f).1 8 = nI pl from rfl, show (mo_un g pl b.1 f).1 6 = nI b.1 from rfl, nI_add, ho, og_t (vp_in_nI (by omega) (by decide)), og_t (vp_in_nI (by omega) (by decide)), nI_clamp (by omega), nI_clamp (by omega), nI_1, nI_1]
      rw [show (mo_un g pl b.1 f).2 4 = g.2 4 from rfl, a1]
      have eS : (upd (mo_un g pl b.1 f).1 6 (nI (b.1 + 1)), mo_uA (mo_un g pl b.1 f).2 10 (upd ((mo_un g pl b.1 f).2 10) b.1 (nI (by_h b2 (if v < 128 then pl + 1 else pl + 1 + i))))) = mo_un g pl (b.1 + 1) (upd f b.1 (nI (by_h b2 (if v < 128 then pl + 1 else pl + 1 + i)))) := by
        unfold mo_un
        refine Prod.ext ?_ ?_
        · funext q
          show upd (upd (upd g.1 6 (nI b.1)) 8 (nI pl)) 6 (nI (b.1 + 1)) q = upd (upd g.1 6 (nI (b.1 + 1))) 8 (nI pl) q
          by_cases z1 : q = 6
          · rw [z1, ux_s, ux_n (by omega), ux_s]
          · rw [ux_n z1]
            by_cases z2 : q = 8
            · rw [z2, ux_s, ux_s]
            · rw [ux_n z2, ux_n z2, ux_n z1, ux_n z1]
        · show mo_uA (mo_uA g.2 10 f) 10 _ = mo_uA g.2 10 _
          rw [uA]
          rfl
      rw [eS]
    by_cases q : v < 128
    · rw [if_neg (show ¬ (128 : Int32) ≤ nI v from nI_ge (b := 128) q (by omega))]
      exact key 1 (by rw [if_pos q])
    · rw [if_pos (show (128 : Int32) ≤ nI v from nI_le (a := 128) (by omega) (by omega)), show 1 + nI i = nI (1 + i) from nI_add 1 i]
      exact key (1 + i) (by rw [if_neg q]; omega)
