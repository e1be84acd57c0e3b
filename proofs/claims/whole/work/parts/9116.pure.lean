set_option maxRecDepth 10000 in
set_option maxHeartbeats 2000000 in
theorem get_ex {b : by_B} (J : by_ok b) (hl : b.1 ≤ 1500) (k : Nat) (hk : k < 5000) : ∃ t, t < 256 ∧ by_get b (nI k) = nI t := by
  by_cases q : k < b.1
  · obtain ⟨h1, h2⟩ := J.at q (by omega)
    exact ⟨_, h2, h1⟩
  · refine ⟨0, by omega, ?_⟩
    unfold by_get
    rw [if_neg (nI_pos (by omega)), if_neg (nI_nlt (by omega) (by omega))]
    rfl
set_option maxRecDepth 10000 in
set_option maxHeartbeats 2000000 in
theorem bh_eq {b : by_B} (J : by_ok b) (hl : b.1 ≤ 1500) {d : Nat} (hd : d ≤ 2000) : (b.1 < d + 3 → rd_bh b (nI d) = -1) ∧ (d + 3 ≤ b.1 → rd_bh b (nI d) = if b.1 < d + 3 + rd_sz b (d + 1) then -1 else nI (d + 3 + rd_sz b (d + 1))) := by
  obtain ⟨t1, h1, e1⟩ := get_ex J hl (d + 1) (by omega)
  obtain ⟨t2, h2, e2⟩ := get_ex J hl (d + 1 + 1) (by omega)
  have e3 : by_two b (nI d + 1) = nI (t1 + 256 * t2) := by
    unfold by_two
    rw [nI_1, nI_1, e1, e2, show (256 : Int32) = nI 256 from rfl, pk_mul, nI_add]
  have e4 : nI d + 3 + by_two b (nI d + 1) = nI (d + 3 + (t1 + 256 * t2)) := by
    rw [e3, show (3 : Int32) = nI 3 from rfl, nI_add, nI_add]
  constructor
  · intro q
    unfold rd_bh
    rw [e4, if_pos (nI_lt (by omega) (by omega))]
  · intro q
    have a1 := (J.at (k := d + 1) (by omega) (by omega)).1
    have a2 := (J.at (k := d + 1 + 1) (by omega) (by omega)).1
    have z1 : t1 = by_h b (d + 1) := by
      have := (J.at (k := d + 1) (by omega) (by omega)).2
      rw [e1, nI_eq (by omega) (by omega)] at a1
      exact a1
    have z2 : t2 = by_h b (d + 1 + 1) := by
      have := (J.at (k := d + 1 + 1) (by omega) (by omega)).2
      rw [e2, nI_eq (by omega) (by omega)] at a2
      exact a2
    have z3 : rd_sz b (d + 1) = t1 + 256 * t2 := by unfold rd_sz; rw [z1, z2]
    unfold rd_bh
    rw [e4, z3]
    by_cases w : b.1 < d + 3 + (t1 + 256 * t2)
    · rw [if_pos (nI_lt w (by omega)), if_pos w]
    · rw [if_neg (nI_nlt (by omega) (by omega)), if_neg w]
def Dk (D x2 x3 : Int32) : Prop := (D < 0 ∧ x3 = 0) ∨ ∃ d, d ≤ 2000 ∧ D = nI d ∧ x2 = nI d ∧ x3 = 1
set_option maxRecDepth 10000 in
set_option maxHeartbeats 2000000 in
theorem e_o64 {K : mo_G → Option mo_G} {bk : Int32 → Int32 → Int32 → Int32 → mo_G → Option mo_G} {g : mo_G} {b : by_B} (I : FI g b) {D x1 x2 x3 x4 : Int32} (h : Dk D x2 x3) : ∃ X2 X3, j_readOffsets_64 K bk x1 x2 x3 x4 g = bk x1 X2 X3 (x4 + 1) g ∧ Dk (if D < 0 then D else rd_bh b D) X2 X3 := by
  have hl := I.2.2.1
  unfold j_readOffsets_64 j_readOffsets_82 j_readOffsets_83 j_readOffsets_114 j_readOffsets_130 j_readOffsets_131
  rcases h with ⟨h1, h2⟩ | ⟨d, h1, h2, h3, h4⟩
  · rw [if_pos h1, h2]
    simp only [if_true]
    exact ⟨_, _, rfl, Or.inl ⟨h1, rfl⟩⟩
  · obtain ⟨b1, b2⟩ := bh_eq I.2.2.2 hl h1
    have o1 : ¬ (1 : Int32) = 0 := by decide
    rw [h2, if_neg (nI_pos (by omega)), h3, h4, I.1, show (3 : Int32) = nI 3 from rfl, nI_add]
    by_cases q : b.1 < d + 3
    · rw [b1 q]
      have c1 : nI b.1 < nI (d + 3) := nI_lt q (by omega)
      simp only [o1, c1, if_true, if_false]
      exact ⟨_, _, rfl, Or.inl ⟨by decide, rfl⟩⟩
    · rw [b2 (by omega)]
      have c1 : ¬ nI b.1 < nI (d + 3) := nI_nlt (by omega) (by omega)
      obtain ⟨a1, a2, _⟩ := I.at (k := d + 1) (by omega)
      obtain ⟨a3, a4, _⟩ := I.at (k := d + 2) (by omega)
      have e2 : nI d + 2 = nI (d + 2) := nI_add d 2
      have e5 : nI d + (nI 3 + nI (by_h b (d + 1)) + 256 * nI (by_h b (d + 2))) = nI (d + 3 + rd_sz b (d + 1)) := by
        rw [show (256 : Int32) = nI 256 from rfl, pk_mul, nI_add, nI_add, nI_add]
        unfold rd_sz
        rw [show d + (3 + by_h b (d + 1) + 256 * by_h b (d + 2)) = d + 3 + (by_h b (d + 1) + 256 * by_h b (d + 1 + 1)) by rw [show d + 1 + 1 = d + 2 from rfl]; omega]
      have hsz : rd_sz b (d + 1) < 65536 := by
        unfold rd_sz
        rw [show d + 1 + 1 = d + 2 from rfl]
        omega
      have g1 := vp_in_nI (n := d + 1) (N := 1500) (by omega) (by decide)
      have g2 := vp_in_nI (n := d + 2) (N := 1500) (by omega) (by decide)
      have k1 := nI_clamp (n := d + 1) (by omega)
      have k2 := nI_clamp (n := d + 2) (by omega)
      simp only [o1, c1, if_false, nI_1, e2, og_t g1, og_t g2, k1, k2, a1, a3, e5]
      by_cases w : b.1 < d + 3 + rd_sz b (d + 1)
      · have c2 : nI b.1 < nI (d + 3 + rd_sz b (d + 1)) := nI_lt w (by omega)
        simp only [w, c2, if_true]
        exact ⟨_, _, rfl, Or.inl ⟨by decide, rfl⟩⟩
      · have c2 : ¬ nI b.1 < nI (d + 3 + rd_sz b (d + 1)) := nI_nlt (by omega) (by omega)
        simp only [w, c2, if_false]
        exact ⟨_, _, rfl, Or.inr ⟨_, by omega, rfl, rfl, rfl⟩⟩
set_option maxRecDepth 10000 in
set_option maxHeartbeats 2000000 in
theorem e_two {g0 g : mo_G} {b : by_B} {x : rd_X} (h : RR g0 g x) (I : FI g0 b) (hp : x.2.2.2 ≤ b.1) : (b.1 < x.2.2.2 + 2 → ∃ v g', r_two g = some (v, g') ∧ BD g0 g' (rd_fl x (nI b.1))) ∧ (x.2.2.2 + 2 ≤ b.1 → r_two g = some (nI (rd_sz b x.2.2.2), (upd g.1 8 (nI (x.2.2.2 + 2)), g.2)) ∧ RR g0 (upd g.1 8 (nI (x.2.2.2 + 2)), g.2) (rd_go x 2)) := by
  have hl := I.2.2.1
  have nxT : ∀ y : rd_X, y.2.2.2 < b.1 → rd_nx b 0 255 y = (true, rd_go y 1) := by
    intro y hy
    obtain ⟨h1, h2⟩ := I.2.2.2.at (k := y.2.2.2) hy (by omega)
    unfold rd_nx
    rw [if_neg (by omega), h1, if_neg]
    rintro (w | w)
    · exact nI_pos (by omega) w
    · exact nI_nlt (a := 255) (b := by_h b y.2.2.2) (by omega) (by omega) w
  have nxF : ∀ y : rd_X, ¬ y.2.2.2 < b.1 → rd_nx b 0 255 y = (false, rd_fl y (nI b.1)) := fun y hy => if_pos (by omega)
  unfold r_two
  obtain ⟨v1, g1, a1, a2, a3⟩ := e_next h I hp 0 255
  rw [a1, Option.bind_some]
  by_cases q1 : x.2.2.2 < b.1
  · rw [nxT x q1] at a2
    obtain ⟨b1, b2, b3, b4⟩ := a2 rfl
    obtain ⟨v2, g2, c1, c2, c3⟩ := e_next b3 I (by show x.2.2.2 + 1 ≤ b.1; omega) 0 255
    rw [c1, Option.bind_some]
    constructor
    · intro q2
      have e := nxF (rd_go x 1) (by show ¬ x.2.2.2 + 1 < b.1; omega)
      rw [e] at c3
      exact ⟨_, _, rfl, c3 rfl⟩
    · intro q2
      have e := nxT (rd_go x 1) (by show x.2.2.2 + 1 < b.1; omega)
      rw [e] at c2
      obtain ⟨d1, d2, d3, d4⟩ := c2 rfl
      have eg : g2 = (upd g.1 8 (nI (x.2.2.2 + 2)), g.2) := by
        rw [d2, b2]
        show (upd (upd g.1 8 _) 8 _, g.2) = _
        rw [ux]
        rfl
      refine ⟨?_, ?_⟩
      · rw [b1, d1, eg, show (256 : Int32) = nI 256 from rfl, pk_mul, nI_add]
        rfl
      · rw [← eg]
        exact d3
  · rw [nxF x q1] at a3
    have B := a3 rfl
    rw [B.next, Option.bind_some]
    exact ⟨fun _ => ⟨_, _, rfl, B⟩, fun z => by omega⟩
def KN (g g' : mo_G) : Prop := (∀ k, 10 ≤ k → g'.1 k = g.1 k) ∧ ∀ j, 5 ≤ j → j ≤ 8 → g'.2 j = g.2 j
set_option maxRecDepth 10000 in
set_option maxHeartbeats 2000000 in
theorem KN.rfl {g : mo_G} : KN g g := ⟨fun _ _ => Eq.refl _, fun _ _ _ => Eq.refl _⟩
set_option maxRecDepth 10000 in
set_option maxHeartbeats 2000000 in
theorem KN.tr {g g1 g2 : mo_G} (h : KN g g1) (k : KN g1 g2) : KN g g2 := ⟨fun i hi => (k.1 i hi).trans (h.1 i hi), fun j h1 h2 => (k.2 j h1 h2).trans (h.2 j h1 h2)⟩
set_option maxRecDepth 10000 in
set_option maxHeartbeats 2000000 in
theorem KN.v {g : mo_G} {k : Nat} {y : Int32} (h : k < 10) : KN g (upd g.1 k y, g.2) := ⟨fun i hi => ux_n (by omega), fun _ _ _ => Eq.refl _⟩
set_option maxRecDepth 10000 in
set_option maxHeartbeats 2000000 in
theorem KN.RN {g g' : mo_G} {p : pi_P} (h : KN g g') (R : RN g p) : RN g' p := by
  refine ⟨(h.1 10 (by omega)).trans R.1, (h.1 11 (by omega)).trans R.2.1, fun c hc => ?_, fun k hk => ?_⟩
  · rw [h.2 5 (by omega) (by omega), h.2 6 (by omega) (by omega), h.2 7 (by omega) (by omega)]
    exact R.2.2.1 c hc
  · rw [h.2 8 (by omega) (by omega)]
    exact R.2.2.2 k hk
set_option maxRecDepth 10000 in
set_option maxHeartbeats 2000000 in
theorem e_o14 {g0 : mo_G} {b : by_B} (I : FI g0 b) {ch : Nat} (hch : ch ≤ 8) : ∀ (j i N : Nat) (g : mo_G) (x : rd_X) (D x2 x3 : Int32), RR g0 g x → x.2.2.2 ≤ b.1 → i + j = ch → j < N → Dk D x2 x3 → ∃ g', l_readOffsets_14 (fun g5 => some g5) N (nI ch) x2 x3 (nI i) g = some g' ∧ ((rd_tb b j D x).1 = true → RR g0 g' (rd_tb b j D x).2 ∧ KN g g' ∧ (rd_tb b j D x).2.2.2.2 ≤ b.1) ∧ ((rd_tb b j D x).1 = false → BD g0 g' (rd_tb b j D x).2) := by
  have hl := I.2.2.1
  intro j
  induction j with
  | zero =>
    intro i N g x D x2 x3 h hp hi hN hD
    obtain ⟨N, rfl⟩ : ∃ m, N = m + 1 := ⟨N - 1, by omega⟩
    rw [l_readOffsets_14, if_pos (nI_le (by omega) (by omega))]
    exact ⟨g, rfl, fun _ => ⟨h, KN.rfl, hp⟩, fun z => Bool.noConfusion z⟩
  | succ j ih =>
    intro i N g x D x2 x3 h hp hi hN hD
    obtain ⟨N, rfl⟩ : ∃ m, N = m + 1 := ⟨N - 1, by omega⟩
    rw [l_readOffsets_14, if_neg (nI_ge (by omega) (by omega)), if_pos h.2.2.1]
    unfold rd_tb
    obtain ⟨t1, t2⟩ := e_two h I hp
    by_cases q : b.1 < x.2.2.2 + 2
    · rw [if_pos q]
      obtain ⟨v, g', a1, a2⟩ := t1 q
      rw [a1, Option.bind_some, if_neg a2.pos.1]
      exact ⟨_, rfl, fun z => Bool.noConfusion z, fun _ => a2⟩
    · rw [if_neg q]
      obtain ⟨a1, a2⟩ := t2 (by omega)
      rw [a1, Option.bind_some]
      rw [if_pos (show (upd g.1 8 (nI (x.2.2.2 + 2)), g.2).1 9 ≤ 0 by rw [show (upd g.1 8 (nI (x.2.2.2 + 2)), g.2).1 9 = g.1 9 from rfl, h.2.2.1]; decide)]
      have h2 : by_two b (nI x.2.2.2) = nI (rd_sz b x.2.2.2) := (rd_two I.2.2.2 hl (by omega)).1
      have I2 : FI (upd g.1 8 (nI (x.2.2.2 + 2)), g.2) b := I.fd a2.1
      rw [h2]
      have good : ∀ (hz : ¬ (¬ D < 0 ∧ ¬ nI (rd_sz b x.2.2.2) = D)), ∃ g', j_readOffsets_64 (fun g5 => some g5) (fun x1 x2 x3 x4 g => l_readOffsets_14 (fun g5 => some g5) N x1 x2 x3 x4 g) (nI ch) x2 x3 (nI i) (upd g.1 8 (nI (x.2.2.2 + 2)), g.2) = some g' ∧ ((rd_tb b j (if D < 0 then D else rd_bh b D) (rd_go x 2)).1 = true → RR g0 g' (rd_tb b j (if D < 0 then D else rd_bh b D) (rd_go x 2)).2 ∧ KN g g' ∧ (rd_tb b j (if D < 0 then D else rd_bh b D) (rd_go x 2)).2.2.2.2 ≤ b.1) ∧ ((rd_tb b j (if D < 0 then D else rd_bh b D) (rd_go x 2)).1 = false → BD g0 g' (rd_tb b j (if D < 0 then D else rd_bh b D) (rd_go x 2)).2) := by
        intro _
        obtain ⟨X2, X3, c1, c2⟩ := e_o64 (K := fun g5 => some g5) (bk := fun x1 x2 x3 x4 g => l_readOffsets_14 (fun g5 => some g5) N x1 x2 x3 x4 g) I2 (x1 := nI ch) (x4 := nI i) hD
        obtain ⟨g', d1, d2, d3⟩ := ih (i + 1) N _ (rd_go x 2) _ X2 X3 a2 (by show x.2.2.2 + 2 ≤ b.1; omega) (by omega) (by omega) c2
        refine ⟨g', ?_, fun z => ⟨(d2 z).1, KN.tr (KN.v (by omega)) (d2 z).2.1, (d2 z).2.2⟩, d3⟩
        rw [c1, nI_1]
        exact d1
      rcases hD with ⟨e1, e2⟩ | ⟨d, e1, e2, e3, e4⟩
      · have n1 : ¬ (¬ D < 0 ∧ ¬ nI (rd_sz b x.2.2.2) = D) := fun z => z.1 e1
        rw [if_neg n1, if_pos e2]
        have := good (fun z => z.1 e1)
        rw [if_pos e1] at this ⊢
        exact this
      · rw [if_neg (show ¬ x3 = 0 by rw [e4]; decide)]
        have hD0 : ¬ D < 0 := by rw [e2]; exact nI_pos (by omega)
        by_cases z : nI (rd_sz b x.2.2.2) = D
        · have n1 : ¬ (¬ D < 0 ∧ ¬ nI (rd_sz b x.2.2.2) = D) := fun w => w.2 z
          have n2 : nI (rd_sz b x.2.2.2) = x2 := by rw [z, e2, e3]
          rw [if_neg n1, if_pos n2]
          exact good (fun w => w.2 z)
        · have n1 : ¬ D < 0 ∧ ¬ nI (rd_sz b x.2.2.2) = D := ⟨hD0, z⟩
          have n2 : ¬ nI (rd_sz b x.2.2.2) = x2 := fun w => z (by rw [w, e2, e3])
          rw [if_pos n1, if_neg n2, h.2.2.2.1, a2.wrong, Option.bind_some]
          have B := a2.bad (nI x.2.2.2)
          obtain ⟨X2, X3, c1, c2⟩ := e_o64 (K := fun g5 => some g5) (bk := fun x1 x2 x3 x4 g => l_readOffsets_14 (fun g5 => some g5) N x1 x2 x3 x4 g) (I.fd B.1) (x1 := nI ch) (x4 := nI i) (Or.inr ⟨d, e1, e2, e3, e4⟩)
          obtain ⟨N, rfl⟩ : ∃ m, N = m + 1 := ⟨N - 1, by omega⟩
          refine ⟨(upd (upd (upd g.1 8 (nI (x.2.2.2 + 2))) 4 (nI x.2.2.2)) 9 1, g.2), ?_, fun z => Bool.noConfusion z, fun _ => B⟩
          refine c1.trans ?_
          show l_readOffsets_14 _ (N + 1) _ _ _ _ _ = _
          rw [l_readOffsets_14, if_neg (show ¬ (upd (upd (upd g.1 8 (nI (x.2.2.2 + 2))) 4 (nI x.2.2.2)) 9 1, g.2).1 9 = 0 from B.pos.2)]
          split <;> rfl
set_option maxRecDepth 10000 in
set_option maxHeartbeats 2000000 in
theorem e_offs {g0 g : mo_G} {b : by_B} {x : rd_X} {p : pi_P} (h : RR g0 g x) (I : FI g0 b) (hp : x.2.2.2 ≤ b.1) (G : GP p) : ∃ g', r_readOffsets (nI (pi_chs p x.2.2.1)) g = some g' ∧ ((rd_tab b p x).1 = true → RR g0 g' (rd_tab b p x).2 ∧ KN g g' ∧ (rd_tab b p x).2.2.2.2 ≤ b.1) ∧ ((rd_tab b p x).1 = false → BD g0 g' (rd_tab b p x).2) := by
  have h8 := G.2.1.2
  have hl := I.2.2.1
  have hch : pi_chs p x.2.2.1 ≤ 8 := by unfold pi_chs; split <;> omega
  unfold r_readOffsets
  rw [h.2.2.2.1]
  exact e_o14 I hch (pi_chs p x.2.2.1) 0 2000 g x _ _ 1 h hp (by omega) (by omega) (Or.inr ⟨x.2.2.2 + 2 * pi_chs p x.2.2.1, by omega, by rw [show (2 : Int32) = nI 2 from rfl, pk_mul, nI_add], by rw [show (2 : Int32) = nI 2 from rfl, pk_mul, nI_add], rfl⟩)
