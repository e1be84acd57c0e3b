set_option maxRecDepth 10000 in
set_option maxHeartbeats 2000000 in
theorem m1_to {n : Nat} (h : n < 2 ^ 30) : (nI n - 1).toInt = (n : Int) - 1 := pk_sub_toInt (b := 1) h (by omega)
set_option maxRecDepth 10000 in
set_option maxHeartbeats 2000000 in
theorem e_has {g : mo_G} {p : pi_P} (R : RP g p) (G : GP p) (c x y : Int32) : (pi_hs p c x y → r_has c x y g = some (1, g)) ∧ (¬ pi_hs p c x y → r_has c x y g = some (0, g)) := by
  have h8 := G.1.2
  have hy8 := G.2.1.2
  have h3 := G.2.2.1
  have z0 : (0 : Int32).toInt = 0 := rfl
  unfold r_has j_has_68
  rw [R.1, R.2.1, R.2.2.1]
  by_cases q1 : 0 ≤ c.toInt ∧ c.toInt < p.2.2.1
  · rw [in_t (x := c) ⟨by rw [z0]; omega, by rw [m1_to (by omega)]; omega⟩, Option.bind_some, if_neg (by decide)]
    obtain ⟨C, C1, rfl, C2⟩ := nat_of q1.1
    have hC : C < p.2.2.1 := by omega
    by_cases q2 : 0 ≤ x.toInt ∧ x.toInt < p.1
    · rw [in_t (x := x) ⟨by rw [z0]; omega, by rw [m1_to (by omega)]; omega⟩, Option.bind_some, if_neg (by decide)]
      obtain ⟨X, X1, rfl, X2⟩ := nat_of q2.1
      by_cases q3 : 0 ≤ y.toInt ∧ y.toInt < p.2.1
      · rw [in_t (x := y) ⟨by rw [z0]; omega, by rw [m1_to (by omega)]; omega⟩, Option.bind_some, if_neg (by decide)]
        obtain ⟨Y, Y1, rfl, Y2⟩ := nat_of q3.1
        rw [og_t (vp_in_nI (by omega) (by decide)), nI_clamp C1, (R.2.2.2.1 C hC).2.2, og_t (stp_ne G hC), og_t (vp_in_nI (by omega) (by decide)), og_t (stp_ne G hC)]
        have i1 := stp_iff G hC (y := X) (by omega)
        have i2 := stp_iff G hC (y := Y) (by omega)
        rw [pi_hsn C1 X1 Y1]
        by_cases w1 : p.2.2.2.2.2.1 C = 1 ∨ X % 2 = 0
        · rw [if_pos (i1.mpr w1)]
          by_cases w2 : p.2.2.2.2.2.1 C = 1 ∨ Y % 2 = 0
          · rw [if_pos (i2.mpr w2)]
            refine ⟨fun _ => rfl, fun hn => absurd ⟨hC, by omega, by omega, ?_⟩ hn⟩
            rcases w1 with a | a
            · exact Or.inl a
            · rcases w2 with d | d
              · exact Or.inl d
              · exact Or.inr ⟨a, d⟩
          · rw [if_neg (fun w => w2 (i2.mp w))]
            refine ⟨fun hh => absurd ?_ w2, fun _ => rfl⟩
            rcases hh.2.2.2 with a | a
            · exact Or.inl a
            · exact Or.inr a.2
        · rw [if_neg (fun w => w1 (i1.mp w))]
          refine ⟨fun hh => absurd ?_ w1, fun _ => rfl⟩
          rcases hh.2.2.2 with a | a
          · exact Or.inl a
          · exact Or.inr a.1
      · rw [in_f (x := y) (by rw [z0, m1_to (by omega)]; omega), Option.bind_some, if_pos rfl]
        exact ⟨fun hh => absurd ⟨hh.2.2.2.2.1, hh.2.2.2.2.2.1⟩ q3, fun _ => rfl⟩
    · rw [in_f (x := x) (by rw [z0, m1_to (by omega)]; omega), Option.bind_some, if_pos rfl]
      exact ⟨fun hh => absurd ⟨hh.2.2.1, hh.2.2.2.1⟩ q2, fun _ => rfl⟩
  · rw [in_f (x := c) (by rw [z0, m1_to (by omega)]; omega), Option.bind_some, if_pos rfl]
    exact ⟨fun hh => absurd ⟨hh.1, hh.2.1⟩ q1, fun _ => rfl⟩
set_option maxRecDepth 10000 in
set_option maxHeartbeats 2000000 in
theorem hs_nat {p : pi_P} {c x y : Int32} (h : pi_hs p c x y) : ∃ C X Y : Nat, c = nI C ∧ x = nI X ∧ y = nI Y ∧ C < p.2.2.1 ∧ X < p.1 ∧ Y < p.2.1 := by
  obtain ⟨C, _, C1, C2⟩ := nat_of h.1
  obtain ⟨X, _, X1, X2⟩ := nat_of h.2.2.1
  obtain ⟨Y, _, Y1, Y2⟩ := nat_of h.2.2.2.2.1
  have := h.2.1
  have := h.2.2.2.1
  have := h.2.2.2.2.2.1
  exact ⟨C, X, Y, C1, X1, Y1, by omega, by omega, by omega⟩
set_option maxRecDepth 10000 in
set_option maxHeartbeats 2000000 in
theorem e_bitsM {g : mo_G} {b : by_B} {p : pi_P} {v : Int32} (h : RL g b p v) (c x y : Int32) : (pi_hs p c x y → r_bits c x y g = some (p.2.2.2.2.2.2 (64 * c.toNatClampNeg + 8 * y.toNatClampNeg + x.toNatClampNeg), (upd g.1 5 0, g.2))) ∧ (¬ pi_hs p c x y → r_bits c x y g = some (0, (upd g.1 5 1, g.2))) := by
  obtain ⟨R, G, L, I, hv⟩ := h
  have h8 := G.1.2
  have hy8 := G.2.1.2
  have h3 := G.2.2.1
  obtain ⟨a1, a2⟩ := e_has R G c x y
  unfold r_bits j_bits_20
  constructor
  · intro hh
    rw [a1 hh, Option.bind_some, if_neg (show ¬ (1 : Int32) = 0 by decide), if_neg (show ¬ (1 : Int32) = 0 by decide)]
    obtain ⟨C, X, Y, rfl, rfl, rfl, h1, h2, h4⟩ := hs_nat hh
    rw [ix3, og_t (vp_in_nI (by omega) (by decide)), nI_clamp (by omega), nI_clamp (by omega), nI_clamp (by omega), nI_clamp (by omega), R.2.2.2.2 _ (by omega)]
  · intro hh
    rw [a2 hh, Option.bind_some, if_pos rfl, if_pos rfl]
set_option maxRecDepth 10000 in
set_option maxHeartbeats 2000000 in
theorem e_channelM {g : mo_G} {b : by_B} {p : pi_P} {v : Int32} (h : RL g b p v) (x y z : Int32) : (¬ ((¬ x < pi_lst p ∧ ¬ 122 < x) ∧ (¬ y < 0 ∧ ¬ 2 < y) ∧ (¬ z < 1 ∧ ¬ 2 < z)) → r_channel x y z g = some (0, (upd g.1 5 1, g.2))) ∧ ((¬ x < pi_lst p ∧ ¬ 122 < x) ∧ (¬ y < 0 ∧ ¬ 2 < y) ∧ (¬ z < 1 ∧ ¬ 2 < z) → (¬ p.2.2.1 < 3 → r_channel x y z g = some (0, (upd g.1 5 2, g.2))) ∧ (p.2.2.1 < 3 → ∃ g', r_channel x y z g = some (nI (p.2.2.1 + 1), g') ∧ g'.1 5 = 0 ∧ RL g' b (pi_add p x y z) v)) := by
  obtain ⟨R, G, L, I, hv⟩ := h
  have h3 := G.2.2.1
  have e0 : r_channel x y z g = j_channel_25 x y z (pi_lst p) g := by
    unfold r_channel pi_lst
    rw [R.2.2.1]
    by_cases q : p.2.2.1 = 0
    · rw [if_pos (show nI p.2.2.1 = 0 by rw [q]; rfl), if_pos q]
    · rw [if_neg (nI_ne0 (by omega) (by omega)), if_neg q, show (1 : Int32) = nI 1 from rfl, pk_sub (by omega), og_t (vp_in_nI (by omega) (by decide)), nI_clamp (by omega), (R.2.2.2.1 (p.2.2.1 - 1) (by omega)).1]
  rw [e0]
  unfold j_channel_25 j_channel_56
  rw [e_in, Option.bind_some, R.2.2.1]
  have one : ∀ (v lo hi : Int32), (¬ v < lo ∧ ¬ hi < v → (if v < lo then (0 : Int32) else if hi < v then 0 else 1) = 1) ∧ (¬ (¬ v < lo ∧ ¬ hi < v) → (if v < lo then (0 : Int32) else if hi < v then 0 else 1) = 0) := by
    intro v lo hi
    constructor
    · rintro ⟨a, c⟩
      rw [if_neg a, if_neg c]
    · intro hn
      exact in0 (by
        by_cases a : v < lo
        · exact Or.inl a
        · by_cases c : hi < v
          · exact Or.inr c
          · exact absurd ⟨a, c⟩ hn)
  constructor
  · intro hn
    by_cases q1 : ¬ x < pi_lst p ∧ ¬ 122 < x
    · rw [(one x _ _).1 q1, if_neg (by decide), e_in, Option.bind_some]
      by_cases q2 : ¬ y < 0 ∧ ¬ 2 < y
      · rw [(one y _ _).1 q2, if_neg (by decide), e_in, Option.bind_some, (one z _ _).2 (fun w => hn ⟨q1, q2, w⟩), if_pos rfl, e_fail, Option.bind_some]
      · rw [(one y _ _).2 q2, if_pos rfl, e_fail, Option.bind_some]
    · rw [(one x _ _).2 q1, if_pos rfl, e_fail, Option.bind_some]
  · rintro ⟨q1, q2, q3⟩
    rw [(one x _ _).1 q1, if_neg (by decide), e_in, Option.bind_some, (one y _ _).1 q2, if_neg (by decide), e_in, Option.bind_some, (one z _ _).1 q3, if_neg (by decide)]
    constructor
    · intro hn
      rw [if_pos (show nI p.2.2.1 = 3 by rw [show p.2.2.1 = 3 by omega]; rfl), e_fail, Option.bind_some]
    · intro h3'
      have gk := vp_in_nI (n := p.2.2.1) (N := 3) h3' (by decide)
      rw [if_neg (show ¬ nI p.2.2.1 = 3 from fun w => by have := (nI_eq (b := 3) (by omega) (by omega)).mp w; omega), og_t gk, og_t gk, og_t gk, nI_1, nI_clamp (by omega)]
      obtain ⟨l, l1, l2, l3⟩ := pi_lst_97 L h3
      obtain ⟨Y, Y1, rfl⟩ := nI_of q2.1
      have hx0 : ¬ x < 0 := by
        intro w
        apply q1.1
        rw [l3]
        rw [Int32.lt_iff_toInt_lt] at w ⊢
        rw [nI_toInt (by omega)]
        have : (0 : Int32).toInt = 0 := rfl
        omega
      have hz0 : ¬ z < 0 := by
        intro w
        apply q3.1
        rw [Int32.lt_iff_toInt_lt] at w ⊢
        have : (0 : Int32).toInt = 0 := rfl
        have : (1 : Int32).toInt = 1 := rfl
        omega
      obtain ⟨X, X1, rfl⟩ := nI_of hx0
      obtain ⟨Z, Z1, rfl⟩ := nI_of hz0
      rw [l3, nI_ltI X1 (by omega), show (122 : Int32) = nI 122 from rfl, nI_ltI (by omega) X1] at q1
      rw [show (2 : Int32) = nI 2 from rfl, nI_ltI (by omega) Y1] at q2
      rw [show (2 : Int32) = nI 2 from rfl, show (1 : Int32) = nI 1 from rfl, nI_ltI (by omega) Z1, nI_ltI Z1 (by omega)] at q3
      have hGP := G.add L h3' (l := X) (t := Y) (s := Z) (by omega) (by omega) (by omega)
      refine ⟨_, rfl, rfl, ?_, hGP.1, hGP.2, ?_, hv⟩
      · have e : pi_add p (nI X) (nI Y) (nI Z) = (p.1, p.2.1, p.2.2.1 + 1, upd p.2.2.2.1 p.2.2.1 (nI X), upd p.2.2.2.2.1 p.2.2.1 (nI Y), upd p.2.2.2.2.2.1 p.2.2.1 (nI Z), p.2.2.2.2.2.2) := if_pos h3'
        rw [e]
        refine ⟨R.1, R.2.1, rfl, fun c hc => ?_, R.2.2.2.2⟩
        change c < p.2.2.1 + 1 at hc
        show upd (g.2 0) p.2.2.1 (nI X) c = upd p.2.2.2.1 p.2.2.1 (nI X) c ∧ upd (g.2 1) p.2.2.1 (nI Y) c = upd p.2.2.2.2.1 p.2.2.1 (nI Y) c ∧ upd (g.2 2) p.2.2.1 (nI Z) c = upd p.2.2.2.2.2.1 p.2.2.1 (nI Z) c
        by_cases q : c = p.2.2.1
        · rw [q]
          exact ⟨by rw [ux_s, ux_s], by rw [ux_s, ux_s], by rw [ux_s, ux_s]⟩
        · obtain ⟨r1, r2, r3⟩ := R.2.2.2.1 c (by omega)
          exact ⟨by rw [ux_n q, ux_n q]; exact r1, by rw [ux_n q, ux_n q]; exact r2, by rw [ux_n q, ux_n q]; exact r3⟩
      · exact I
set_option maxRecDepth 10000 in
set_option maxHeartbeats 2000000 in
theorem e_countM {g : mo_G} {b : by_B} {p : pi_P} {v : Int32} (h : RL g b p v) (x : Int32) : (¬ (¬ x < 0 ∧ ¬ 50 ≤ x ∧ x - x / 10 * 10 < 3) → r_count x g = some (0, (upd g.1 5 1, g.2))) ∧ (¬ x < 0 ∧ ¬ 50 ≤ x ∧ x - x / 10 * 10 < 3 → r_count x g = some (rf_cnt p x, (upd g.1 5 0, g.2))) := by
  obtain ⟨R, G, L, I, hv⟩ := h
  have h3 := G.2.2.1
  have h8 := G.1.2
  have hy8 := G.2.1.2
  have t10 : (10 : Int32).toInt = 10 := rfl
  have t12 : (12 : Int32).toInt = 12 := rfl
  have t20 : (20 : Int32).toInt = 20 := rfl
  have t22 : (22 : Int32).toInt = 22 := rfl
  have t30 : (30 : Int32).toInt = 30 := rfl
  have t32 : (32 : Int32).toInt = 32 := rfl
  have t40 : (40 : Int32).toInt = 40 := rfl
  have t42 : (42 : Int32).toInt = 42 := rfl
  have t0 : (0 : Int32).toInt = 0 := rfl
  have t2 : (2 : Int32).toInt = 2 := rfl
  have t50 : (50 : Int32).toInt = 50 := rfl
  have iff : (¬ x < 0 ∧ ¬ 50 ≤ x ∧ x - x / 10 * 10 < 3) ↔ ((0 ≤ x.toInt ∧ x.toInt ≤ 2) ∨ (10 ≤ x.toInt ∧ x.toInt ≤ 12) ∨ (20 ≤ x.toInt ∧ x.toInt ≤ 22) ∨ (30 ≤ x.toInt ∧ x.toInt ≤ 32) ∨ (40 ≤ x.toInt ∧ x.toInt ≤ 42)) := by
    by_cases q : x < 0
    · rw [Int32.lt_iff_toInt_lt, t0] at q
      constructor
      · rintro ⟨a, _⟩
        rw [Int32.lt_iff_toInt_lt, t0] at a
        omega
      · omega
    · obtain ⟨k, hk, rfl⟩ := nI_of q
      have e : nI k - nI k / 10 * 10 = nI (k % 10) := pk_rem (d := 10) hk (by omega) (by omega)
      rw [e, nI_toInt hk, show (50 : Int32) = nI 50 from rfl, show (3 : Int32) = nI 3 from rfl, nI_leI (by omega) hk, nI_ltI (by omega) (by omega)]
      constructor
      · rintro ⟨_, a, c⟩
        omega
      · intro w
        exact ⟨q, by omega, by omega⟩
  rw [iff]
  unfold r_count j_count_44 j_count_49
  constructor
  · intro hn
    rw [in_f (by omega), Option.bind_some, if_pos rfl, in_f (by omega), Option.bind_some, if_pos rfl, in_f (by omega), Option.bind_some, if_pos rfl, in_f (by omega), Option.bind_some, if_pos rfl, in_f (by omega), Option.bind_some, if_pos rfl, if_pos rfl, e_fail, Option.bind_some]
  · intro hw
    have val : j_count_69 x g = some (rf_cnt p x, (upd g.1 5 0, g.2)) := by
      obtain ⟨k, hk, rfl, k2⟩ := nat_of (x := x) (by omega)
      have e : nI k - nI k / 10 * 10 = nI (k % 10) := pk_rem (d := 10) hk (by omega) (by omega)
      have ed : nI k / 10 = nI (k / 10) := pk_div (d := 10) hk (by omega) (by omega)
      unfold j_count_69 rf_cnt
      rw [e, ed, R.1, R.2.1, R.2.2.1]
      have neq : ∀ m : Nat, m < 100 → (nI k = nI m ↔ k = m) := fun m hm => nI_eq hk (by omega)
      have nle : ∀ m : Nat, m < 100 → (nI m ≤ nI k ↔ m ≤ k) := fun m hm => nI_leI (by omega) hk
      have c3 : ((3 : Int32) ≤ nI k) ↔ 3 ≤ k := nle 3 (by omega)
      have c20 : ((20 : Int32) ≤ nI k) ↔ 20 ≤ k := nle 20 (by omega)
      have c30 : ((30 : Int32) ≤ nI k) ↔ 30 ≤ k := nle 30 (by omega)
      have c40 : ((40 : Int32) ≤ nI k) ↔ 40 ≤ k := nle 40 (by omega)
      have d0 : (nI k = 0) ↔ k = 0 := neq 0 (by omega)
      have d1 : (nI k = 1) ↔ k = 1 := neq 1 (by omega)
      have d2 : (nI k = 2) ↔ k = 2 := neq 2 (by omega)
      by_cases q3 : 3 ≤ k
      · rw [if_pos (c3.mpr q3), if_neg (show ¬ nI k = 0 from fun w => by have := d0.mp w; omega), if_neg (show ¬ nI k = 1 from fun w => by have := d1.mp w; omega), if_neg (show ¬ nI k = 2 from fun w => by have := d2.mp w; omega)]
        by_cases q : k % 10 < p.2.2.1
        · have hc := q
          obtain ⟨r0, r1, r2⟩ := R.2.2.2.1 (k % 10) hc
          have gc := vp_in_nI (n := k % 10) (N := 3) (by omega) (by decide)
          have cc : (nI (k % 10)).toNatClampNeg = k % 10 := nI_clamp (by omega)
          have lt : nI (k % 10) < nI p.2.2.1 := nI_lt q (by omega)
          unfold pi_fact
          have f1 : ∀ m : Nat, m < 100 → (nI (k / 10) = nI m ↔ k / 10 = m) := fun m hm => nI_eq (by omega) (by omega)
          have g1 : (nI (k / 10) = 1) ↔ k / 10 = 1 := f1 1 (by omega)
          have g2 : (nI (k / 10) = 2) ↔ k / 10 = 2 := f1 2 (by omega)
          have g3 : (nI (k / 10) = 3) ↔ k / 10 = 3 := f1 3 (by omega)
          rw [if_pos lt, if_pos lt, cc]
          simp only [og_t gc, r0, r1, r2]
          by_cases q20 : 20 ≤ k
          · rw [if_pos (c20.mpr q20), if_neg (show ¬ nI (k / 10) = 1 from fun w => by have := g1.mp w; omega)]
            by_cases q30 : 30 ≤ k
            · rw [if_pos (c30.mpr q30), if_neg (show ¬ nI (k / 10) = 2 from fun w => by have := g2.mp w; omega)]
              by_cases q40 : 40 ≤ k
              · rw [if_pos (c40.mpr q40), if_neg (show ¬ nI (k / 10) = 3 from fun w => by have := g3.mp w; omega), st_eq G hc, e_across G.1.2, Option.bind_some, e_across G.2.1.2, Option.bind_some]
              · rw [if_neg (show ¬ (40 : Int32) ≤ nI k from fun w => q40 (c40.mp w)), if_pos (g3.mpr (by omega))]
            · rw [if_neg (show ¬ (30 : Int32) ≤ nI k from fun w => q30 (c30.mp w)), if_pos (g2.mpr (by omega))]
          · rw [if_neg (show ¬ (20 : Int32) ≤ nI k from fun w => q20 (c20.mp w)), if_pos (g1.mpr (by omega))]
        · have nlt : ¬ nI (k % 10) < nI p.2.2.1 := nI_nlt (by omega) (by omega)
          rw [if_neg nlt, if_neg nlt]
      · rw [if_neg (show ¬ (3 : Int32) ≤ nI k from fun w => q3 (c3.mp w))]
        rcases (show k = 0 ∨ k = 1 ∨ k = 2 by omega) with z | z | z
        · rw [if_pos (d0.mpr z), if_pos (d0.mpr z)]
        · rw [if_neg (show ¬ nI k = 0 from fun w => by have := d0.mp w; omega), if_pos (d1.mpr z), if_neg (show ¬ nI k = 0 from fun w => by have := d0.mp w; omega), if_pos (d1.mpr z)]
        · rw [if_neg (show ¬ nI k = 0 from fun w => by have := d0.mp w; omega), if_neg (show ¬ nI k = 1 from fun w => by have := d1.mp w; omega), if_neg (show ¬ nI k = 0 from fun w => by have := d0.mp w; omega), if_neg (show ¬ nI k = 1 from fun w => by have := d1.mp w; omega), if_pos (d2.mpr z)]
    have in2 : ∀ s0 : Int32, (¬ s0 = 0 ∨ (0 ≤ x.toInt ∧ x.toInt ≤ 2)) → ((r_in x 0 2).bind (fun z2 => if z2 = 0 then (if s0 = 0 then ((r_fail 1 g).bind (fun z10 => some (z10.1, z10.2))) else (j_count_69 x g)) else (j_count_69 x g))) = some (rf_cnt p x, (upd g.1 5 0, g.2)) := by
      intro s0 hs
      by_cases q : 0 ≤ x.toInt ∧ x.toInt ≤ 2
      · rw [in_t (by rw [t0, t2]; exact q), Option.bind_some, if_neg (by decide), val]
      · rw [in_f (by rw [t0, t2]; exact q), Option.bind_some, if_pos rfl, if_neg (by rcases hs with w | w; exact w; exact absurd w q), val]
    by_cases q1 : 10 ≤ x.toInt ∧ x.toInt ≤ 12
    · rw [in_t (x := x) (lo := 10) (hi := 12) (by omega), Option.bind_some, if_neg (by decide)]
      exact in2 1 (Or.inl (by decide))
    · rw [in_f (x := x) (lo := 10) (hi := 12) (by omega), Option.bind_some, if_pos rfl]
      by_cases q2 : 20 ≤ x.toInt ∧ x.toInt ≤ 22
      · rw [in_t (x := x) (lo := 20) (hi := 22) (by omega), Option.bind_some, if_neg (by decide)]
        exact in2 1 (Or.inl (by decide))
      · rw [in_f (x := x) (lo := 20) (hi := 22) (by omega), Option.bind_some, if_pos rfl]
        by_cases q3 : 30 ≤ x.toInt ∧ x.toInt ≤ 32
        · rw [in_t (x := x) (lo := 30) (hi := 32) (by omega), Option.bind_some, if_neg (by decide)]
          exact in2 1 (Or.inl (by decide))
        · rw [in_f (x := x) (lo := 30) (hi := 32) (by omega), Option.bind_some, if_pos rfl]
          by_cases q4 : 40 ≤ x.toInt ∧ x.toInt ≤ 42
          · rw [in_t (x := x) (lo := 40) (hi := 42) (by omega), Option.bind_some, if_neg (by decide)]
            exact in2 1 (Or.inl (by decide))
          · rw [in_f (x := x) (lo := 40) (hi := 42) (by omega), Option.bind_some, if_pos rfl]
            exact in2 0 (Or.inr (by omega))
