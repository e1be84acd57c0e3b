set_option maxRecDepth 10000 in
set_option maxHeartbeats 2000000 in
theorem in_i (x lo hi : Int32) : r_in x lo hi = some (if lo.toInt ≤ x.toInt ∧ x.toInt ≤ hi.toInt then 1 else 0) := by
  rw [e_in]
  congr 1
  by_cases q1 : x < lo
  · rw [if_pos q1, if_neg]
    rw [Int32.lt_iff_toInt_lt] at q1
    omega
  · rw [if_neg q1]
    rw [Int32.lt_iff_toInt_lt] at q1
    by_cases q2 : hi < x
    · rw [if_pos q2, if_neg]
      rw [Int32.lt_iff_toInt_lt] at q2
      omega
    · rw [if_neg q2, if_pos]
      rw [Int32.lt_iff_toInt_lt] at q2
      omega
set_option maxRecDepth 10000 in
set_option maxHeartbeats 2000000 in
theorem in_t {x lo hi : Int32} (h : lo.toInt ≤ x.toInt ∧ x.toInt ≤ hi.toInt) : r_in x lo hi = some 1 := by rw [in_i, if_pos h]
set_option maxRecDepth 10000 in
set_option maxHeartbeats 2000000 in
theorem in_f {x lo hi : Int32} (h : ¬ (lo.toInt ≤ x.toInt ∧ x.toInt ≤ hi.toInt)) : r_in x lo hi = some 0 := by rw [in_i, if_neg h]
set_option maxRecDepth 10000 in
set_option maxHeartbeats 2000000 in
theorem nI_to {x : Int32} {k : Nat} (h : x.toInt = k) : x = nI k := by
  have hx := x.toInt_lt
  apply Int32.toInt_inj.mp
  rw [h, nI_toInt (by omega)]
set_option maxRecDepth 10000 in
set_option maxHeartbeats 2000000 in
theorem nat_of {x : Int32} (h : 0 ≤ x.toInt) : ∃ k : Nat, k < 2 ^ 31 ∧ x = nI k ∧ x.toInt = k := by
  have hx := x.toInt_lt
  obtain ⟨k, hk⟩ := Int.eq_ofNat_of_zero_le h
  exact ⟨k, by omega, nI_to hk, hk⟩
def RL (g : mo_G) (b : by_B) (p : pi_P) (v : Int32) : Prop := RP g p ∧ GP p ∧ GL p ∧ FI g b ∧ g.1 4 = v
set_option maxRecDepth 10000 in
set_option maxHeartbeats 2000000 in
theorem RL.v5 {g : mo_G} {b : by_B} {p : pi_P} {v : Int32} (h : RL g b p v) (c : Int32) : RL (upd g.1 5 c, g.2) b p v := h
set_option maxRecDepth 10000 in
set_option maxHeartbeats 2000000 in
theorem e_fail (c : Int32) (g : mo_G) : r_fail c g = some (0, (upd g.1 5 c, g.2)) := rfl
set_option maxRecDepth 10000 in
set_option maxHeartbeats 2000000 in
theorem e_b48 {K : Int32 → Int32 → mo_G → Option (Prod Int32 mo_G)} {g : mo_G} {a1 a2 : Int32} : ∀ (j i N : Nat) (f : Nat → Int32), i + j = 192 → j < N → ∃ f', (∀ k, i ≤ k → k < 192 → f' k = 0) ∧ (∀ k, k < i → f' k = f k) ∧ l_begin_48 K N a1 a2 (nI i) (g.1, mo_uA g.2 3 f) = K a1 a2 (g.1, mo_uA g.2 3 f') := by
  intro j
  induction j with
  | zero =>
    intro i N f hi hN
    obtain ⟨N, rfl⟩ : ∃ m, N = m + 1 := ⟨N - 1, by omega⟩
    refine ⟨f, fun k h1 h2 => by omega, fun _ _ => rfl, ?_⟩
    rw [l_begin_48, if_pos (show (192 : Int32) ≤ nI i from nI_le (a := 192) (by omega) (by omega))]
  | succ j ih =>
    intro i N f hi hN
    obtain ⟨N, rfl⟩ : ∃ m, N = m + 1 := ⟨N - 1, by omega⟩
    obtain ⟨f', h1, h2, h3⟩ := ih (i + 1) N (upd f i 0) (by omega) (by omega)
    refine ⟨f', fun k a b => ?_, fun k a => ?_, ?_⟩
    · rcases Nat.lt_or_ge i k with z | z
      · exact h1 k (by omega) b
      · rw [h2 k (by omega), show k = i by omega, ux_s]
    · rw [h2 k (by omega), ux_n (by omega)]
    · rw [l_begin_48, if_neg (show ¬ (192 : Int32) ≤ nI i from nI_ge (b := 192) (by omega) (by omega)), og_t (vp_in_nI (by omega) (by decide)), nI_clamp (by omega), nI_1]
      show l_begin_48 K N _ _ _ (g.1, mo_uA (mo_uA g.2 3 f) 3 (upd f i 0)) = _
      rw [uA]
      exact h3
set_option maxRecDepth 10000 in
set_option maxHeartbeats 2000000 in
theorem e_begin {g : mo_G} {b : by_B} {p : pi_P} {v : Int32} (h : RL g b p v) (x y : Int32) : (1 ≤ x ∧ x ≤ 8 ∧ 1 ≤ y ∧ y ≤ 8 → ∃ g', r_begin x y g = some (x * y, g') ∧ g'.1 5 = 0 ∧ RL g' b (pi_new p x.toNatClampNeg y.toNatClampNeg) v) ∧ (¬ (1 ≤ x ∧ x ≤ 8 ∧ 1 ≤ y ∧ y ≤ 8) → r_begin x y g = some (0, (upd g.1 5 1, g.2))) := by
  unfold r_begin j_begin_20
  simp only [Int32.le_iff_toInt_le]
  constructor
  · rintro ⟨h1, h2, h3, h4⟩
    have x1 : (1 : Int32).toInt = 1 := rfl
    have x8 : (8 : Int32).toInt = 8 := rfl
    obtain ⟨w, _, w1, w2⟩ := nat_of (x := x) (by omega)
    obtain ⟨z, _, z1, z2⟩ := nat_of (x := y) (by omega)
    rw [in_t ⟨h1, h2⟩, Option.bind_some, if_neg (by decide), in_t ⟨h3, h4⟩, Option.bind_some, if_neg (by decide)]
    obtain ⟨f', a1, _, a3⟩ := e_b48 (K := fun y6 y7 g5 => some ((y6 * y7), g5)) (g := (upd (upd (upd (upd g.1 5 0) 0 x) 1 y) 2 0, g.2)) (a1 := x) (a2 := y) 192 0 2000 (g.2 3) (by omega) (by omega)
    have e3 : ((upd (upd (upd (upd g.1 5 0) 0 x) 1 y) 2 0, g.2).1, mo_uA (upd (upd (upd (upd g.1 5 0) 0 x) 1 y) 2 0, g.2).2 3 (g.2 3)) = (upd (upd (upd (upd g.1 5 0) 0 x) 1 y) 2 0, g.2) := by
      refine Prod.ext rfl ?_
      funext i
      show mo_uA g.2 3 (g.2 3) i = g.2 i
      by_cases z : i = 3
      · rw [z, uA_s]
      · exact uA_n z
    rw [e3, nI_0] at a3
    refine ⟨_, a3, rfl, ?_⟩
    rw [w1, z1, nI_clamp (by omega), nI_clamp (by omega)]
    refine ⟨⟨rfl, rfl, rfl, fun c hc => absurd hc (Nat.not_lt_zero c), fun k hk => ?_⟩, (GP_new (by omega) (by omega)).1, (GP_new (by omega) (by omega)).2, h.2.2.2.1, h.2.2.2.2⟩
    show f' k = mj_fil 192 0 p.2.2.2.2.2.2 0 k
    rw [a1 k (Nat.zero_le _) hk]
    exact (if_pos ⟨Nat.zero_le _, hk⟩).symm
  · intro hn
    by_cases q : (1 : Int32).toInt ≤ x.toInt ∧ x.toInt ≤ (8 : Int32).toInt
    · rw [in_t q, Option.bind_some, if_neg (by decide), in_f (fun w => hn ⟨q.1, q.2, w.1, w.2⟩), Option.bind_some, if_pos rfl, e_fail, Option.bind_some]
    · rw [in_f q, Option.bind_some, if_pos rfl, e_fail, Option.bind_some]
set_option maxRecDepth 10000 in
set_option maxHeartbeats 2000000 in
theorem e_cutM {g : mo_G} {b : by_B} {p : pi_P} {v : Int32} (h : RL g b p v) (x : Int32) : (¬ x < 0 ∧ x ≤ nI b.1 → ∃ g', r_cut x g = some (nI b.1 - x, g') ∧ g'.1 5 = 0 ∧ RL g' (x.toNatClampNeg, b.2.1, b.2.2) p v) ∧ (¬ (¬ x < 0 ∧ x ≤ nI b.1) → r_cut x g = some (0, (upd g.1 5 1, g.2))) := by
  obtain ⟨R, G, L, I, hv⟩ := h
  have hl := I.2.2.1
  unfold r_cut
  rw [I.1, e_in, Option.bind_some]
  constructor
  · rintro ⟨h1, h2⟩
    obtain ⟨k, hk, rfl⟩ := nI_of h1
    rw [nI_leI hk (by omega)] at h2
    rw [if_neg h1, if_neg (nI_nlt h2 (by omega)), if_neg (by decide)]
    refine ⟨_, rfl, rfl, R, G, L, ?_, hv⟩
    rw [nI_clamp hk]
    exact ⟨rfl, fun i hi => I.2.1 i (by have : i < k := hi; omega), by show k ≤ 1500; omega, fun i hi => I.2.2.2 i (by have : i < k := hi; omega)⟩
  · intro hn
    have e0 : (if x < 0 then (0 : Int32) else if nI b.1 < x then 0 else 1) = 0 := by
      by_cases q : x < 0
      · exact if_pos q
      · rw [if_neg q, if_pos]
        rcases Int32.lt_or_le (nI b.1) x with w | w
        · exact w
        · exact absurd ⟨q, w⟩ hn
    rw [e0, if_pos rfl, e_fail, Option.bind_some]
set_option maxRecDepth 10000 in
set_option maxHeartbeats 2000000 in
theorem e_fileM {g : mo_G} {b : by_B} {p : pi_P} {v : Int32} (h : RL g b p v) (x : Int32) : (¬ x < -1 ∧ x < nI b.1 → r_file x g = some (if x = -1 then nI b.1 else by_get b x, (upd g.1 5 0, g.2))) ∧ (¬ (¬ x < -1 ∧ x < nI b.1) → r_file x g = some (0, (upd g.1 5 1, g.2))) := by
  obtain ⟨R, G, L, I, hv⟩ := h
  have hl := I.2.2.1
  have m1 : (-1 : Int32).toInt = -1 := rfl
  have e1 : (nI b.1 - 1).toInt = (b.1 : Int) - 1 := pk_sub_toInt (b := 1) (by omega) (by omega)
  unfold r_file j_file_20
  rw [I.1]
  rw [Int32.lt_iff_toInt_lt, Int32.lt_iff_toInt_lt, nI_toInt (by omega), m1]
  constructor
  · rintro ⟨h1, h2⟩
    rw [in_t ⟨by rw [m1]; omega, by rw [e1]; omega⟩, Option.bind_some, if_neg (by decide), if_pos (by decide)]
    by_cases q : x = -1
    · rw [if_pos q, if_neg (show ¬ 0 ≤ x by rw [q]; decide)]
    · have h0 : 0 ≤ x.toInt := by
        rcases Int.lt_or_le x.toInt 0 with w | w
        · exact absurd (Int32.toInt_inj.mp (by rw [m1]; omega)) q
        · exact w
      obtain ⟨k, hk, rfl, k2⟩ := nat_of h0
      have hkb : k < b.1 := by omega
      rw [if_neg q, if_pos (nI_pos' hk), og_t (vp_in_nI (by omega) (by decide)), nI_clamp hk, by_get_at hkb (by omega), I.2.1 k hkb]
  · intro hn
    rw [in_f (by rw [m1, e1]; omega), Option.bind_some, if_pos rfl, if_neg (by decide)]
set_option maxRecDepth 10000 in
set_option maxHeartbeats 2000000 in
theorem e_patchM {g : mo_G} {b : by_B} {p : pi_P} {v : Int32} (h : RL g b p v) (x y : Int32) : (¬ (¬ y < 0 ∧ y ≤ 255) → r_patch x y g = some (0, (upd g.1 5 1, g.2))) ∧ (¬ y < 0 ∧ y ≤ 255 → (¬ (¬ x < 0 ∧ x ≤ nI b.1 ∧ x < 1500) → r_patch x y g = some (0, (upd g.1 5 2, g.2))) ∧ (¬ x < 0 ∧ x ≤ nI b.1 ∧ x < 1500 → (x = nI b.1 → ∃ g', r_patch x y g = some (-1, g') ∧ g'.1 5 = 0 ∧ RL g' (by_add 1500 b y) p v) ∧ (¬ x = nI b.1 → ∃ g', r_patch x y g = some (by_get b x, g') ∧ g'.1 5 = 0 ∧ RL g' (by_chg b x y) p v))) := by
  obtain ⟨R, G, L, I, hv⟩ := h
  have hl := I.2.2.1
  unfold r_patch j_patch_36
  rw [e_in, Option.bind_some]
  constructor
  · intro hn
    have e0 : (if y < 0 then (0 : Int32) else if 255 < y then 0 else 1) = 0 := by
      by_cases q : y < 0
      · exact if_pos q
      · rw [if_neg q, if_pos]
        rcases Int32.lt_or_le 255 y with w | w
        · exact w
        · exact absurd ⟨q, w⟩ hn
    rw [e0, if_pos rfl, e_fail, Option.bind_some]
  · rintro ⟨y1, y2⟩
    obtain ⟨m, hm, rfl⟩ := nI_of y1
    have hm255 : m ≤ 255 := by
      have := (nI_leI (b := 255) hm (by omega)).mp y2
      exact this
    rw [if_neg y1, if_neg (show ¬ (255 : Int32) < nI m from nI_nlt (a := 255) hm255 (by omega)), if_neg (by decide), I.1, e_in, Option.bind_some]
    constructor
    · intro hn
      by_cases q : x < 0
      · rw [if_pos q, if_pos rfl, e_fail, Option.bind_some]
      · rw [if_neg q]
        obtain ⟨k, hk, rfl⟩ := nI_of q
        by_cases q2 : nI b.1 < nI k
        · rw [if_pos q2, if_pos rfl, e_fail, Option.bind_some]
        · have hkb : k ≤ b.1 := by
            rw [nI_ltI (by omega) hk] at q2
            omega
          have hk15 : k = 1500 := by
            apply Decidable.byContradiction
            intro w
            exact hn ⟨q, nI_le hkb (by omega), nI_lt (b := 1500) (by omega) (by omega)⟩
          rw [if_neg q2, if_neg (by decide), if_pos (show nI k = 1500 by rw [hk15]; rfl), e_fail, Option.bind_some]
    · rintro ⟨x1, x2, x3⟩
      obtain ⟨k, hk, rfl⟩ := nI_of x1
      have hkb : k ≤ b.1 := (nI_leI hk (by omega)).mp x2
      have hk15 : k < 1500 := (nI_ltI (b := 1500) hk (by omega)).mp x3
      have gk := vp_in_nI (n := k) (N := 1500) hk15 (by decide)
      rw [if_neg x1, if_neg (nI_nlt hkb (by omega)), if_neg (by decide), if_neg (show ¬ nI k = 1500 from fun w => by have := (nI_eq (b := 1500) hk (by omega)).mp w; omega)]
      unfold j_patch_65 j_patch_91
      have i3 : (upd g.1 5 0, g.2).1 3 = nI b.1 := I.1
      rw [nI_eq hk (by omega), og_t gk, nI_clamp hk, i3]
      constructor
      · intro e
        subst e
        rw [if_pos (nI_le (Nat.le_refl _) (by omega)), if_pos rfl, nI_1]
        refine ⟨_, rfl, rfl, R, G, L, ⟨?_, ?_, ?_, by_ok_add _ I.2.2.2⟩, hv⟩
        · show nI (b.1 + 1) = nI (by_add 1500 b (nI m)).1
          rw [by_add_1 hk15]
        · exact by_eq_cons I.2.1 hk15 (b255 (by omega))
        · rw [by_add_1 hk15]
          omega
      · intro e
        have hkl : k < b.1 := by omega
        rw [if_neg (nI_ge hkl (by omega)), og_t gk, if_neg (show ¬ nI k = nI b.1 from fun w => e ((nI_eq hk (by omega)).mp w))]
        have ec : by_chg b (nI k) (nI m) = (b.1, b.2.1, upd b.2.2 k (nI m)) := by
          unfold by_chg
          rw [if_neg x1, if_pos (nI_lt hkl (by omega)), nI_clamp hk, b255 (by omega)]
        have okc := by_ok_chg (b := b) (nI k) (nI m) I.2.2.2
        rw [ec] at okc ⊢
        rw [by_get_at hkl (by omega), I.2.1 k hkl]
        refine ⟨_, og_t gk, rfl, R, G, L, ⟨I.1, ?_, hl, okc⟩, hv⟩
        intro i hi
        show upd (g.2 4) k (nI m) i = upd b.2.2 k (nI m) i
        by_cases z : i = k
        · rw [z, ux_s, ux_s]
        · rw [ux_n z, ux_n z]
          exact I.2.1 i hi
