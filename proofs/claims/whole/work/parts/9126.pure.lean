set_option maxRecDepth 10000 in
set_option maxHeartbeats 2000000 in
theorem sh_5 (x : BitVec 32) : (x.sshiftRight 10) &&& 31#32 = (x >>> 10) &&& 31#32 := by
  apply BitVec.eq_of_getLsbD_eq
  intro i hi
  rw [BitVec.getLsbD_and, BitVec.getLsbD_and, BitVec.getLsbD_sshiftRight, BitVec.getLsbD_ushiftRight]
  by_cases q : i < 5
  · rw [if_pos (by omega)]
    have : ¬ 32 ≤ i := by omega
    simp [this]
  · have e : (31#32).getLsbD i = false := by
      have e2 : (31#32) = BitVec.ofNat 32 (2 ^ 5 - 1) := by decide
      rw [e2, BitVec.getLsbD_ofNat, Nat.testBit_two_pow_sub_one]
      simp [q]
    simp [e]
set_option maxRecDepth 10000 in
set_option maxHeartbeats 2000000 in
theorem fld_iff5 (z : Int32) : (z >>> (10 &&& 31)) &&& 31 = 31 ↔ z &&& 31744 = 31744 := by
  rw [← Int32.toBitVec_inj, ← Int32.toBitVec_inj]
  show z.toBitVec.sshiftRight 10 &&& 31#32 = 31#32 ↔ z.toBitVec &&& (31#32 <<< 10) = 31#32 <<< 10
  rw [sh_5 _, and_shl]
  constructor
  · intro h
    rw [h]
  · intro h
    apply BitVec.eq_of_toNat_eq
    have h2 := congrArg BitVec.toNat h
    rw [BitVec.toNat_shiftLeft, BitVec.toNat_shiftLeft, Nat.shiftLeft_eq, Nat.shiftLeft_eq] at h2
    have h3 : (z.toBitVec >>> 10 &&& 31#32).toNat ≤ 31 := by
      rw [BitVec.toNat_and]
      exact Nat.and_le_right
    rw [Nat.mod_eq_of_lt (by omega), show (31#32).toNat = 31 from rfl] at h2
    show _ = 31
    omega
set_option maxRecDepth 10000 in
set_option maxHeartbeats 2000000 in
theorem e_none {t b : Int32} : r_isNone t b = some (if sa_numb t b = 0 then 1 else 0) := by
  unfold r_isNone sa_numb j_isNone_47
  by_cases q : t = 0
  · rw [if_pos q, if_pos q]
    by_cases z : b &&& 31744 = 31744
    · rw [if_pos ((fld_iff5 b).mpr z), if_pos z]
      rfl
    · rw [if_neg (fun w => z ((fld_iff5 b).mp w)), if_neg z]
      rfl
  · rw [if_neg q, if_neg q]
    by_cases q1 : t = 1
    · rw [if_pos q1, if_pos q1]
      by_cases z : b &&& 2139095040 = 2139095040
      · rw [if_pos ((fld_iff b).mpr z), if_pos z]
        rfl
      · rw [if_neg (fun w => z ((fld_iff b).mp w)), if_neg z]
        rfl
    · rw [if_neg q1, if_neg q1]
      rfl
abbrev bd_ (p : pi_P) (c y x : Nat) : Prop := sa_numb (p.2.2.2.2.1 c) (p.2.2.2.2.2.2 (64 * c + 8 * y + x)) = 0
set_option maxRecDepth 10000 in
set_option maxHeartbeats 2000000 in
theorem e_i24 {K : Int32 → Int32 → Int32 → Int32 → mo_G → Option (Prod Int32 mo_G)} {g : mo_G} {p : pi_P} {k : Nat} (RSp : RS g p k) (G : GP p) (hS : SE p (g.2 8)) {c y : Nat} {a1 a2 : Int32} (hc : c < p.2.2.1) (hy : y < p.2.1) : ∀ (j x N : Nat), x + j = p.1 → j < N → ((∀ x', x ≤ x' → x' < p.1 → ¬ bd_ p c y x') → l_isSound_24 K N a1 a2 (nI c) (nI y) (nI x) g = K a1 a2 (nI c) (nI y) g) ∧ ((∃ x', x ≤ x' ∧ x' < p.1 ∧ bd_ p c y x') → l_isSound_24 K N a1 a2 (nI c) (nI y) (nI x) g = some (0, g)) := by
  have h8 := G.1.2
  have h3 := G.2.2.1
  have hy8 := G.2.1.2
  intro j
  induction j with
  | zero =>
    intro x N hx hN
    obtain ⟨N, rfl⟩ : ∃ m, N = m + 1 := ⟨N - 1, by omega⟩
    refine ⟨fun _ => ?_, fun ⟨x', a, b, _⟩ => by omega⟩
    rw [l_isSound_24, RSp.1, if_pos (nI_le (by omega) (by omega))]
  | succ j ih =>
    intro x N hx hN
    obtain ⟨N, rfl⟩ : ∃ m, N = m + 1 := ⟨N - 1, by omega⟩
    obtain ⟨i1, i2⟩ := ih (x + 1) N (by omega) (by omega)
    rw [l_isSound_24, RSp.1, if_neg (nI_ge (by omega) (by omega)), og_t (vp_in_nI (by omega) (by decide)), ix3, og_t (vp_in_nI (by omega) (by decide)), nI_clamp (by omega), nI_clamp (by omega), (RSp.2.2.2.2 c hc).2.1, hS _ (by omega), e_none, Option.bind_some, nI_1]
    by_cases q : bd_ p c y x
    · have e1 : (if sa_numb (p.2.2.2.2.1 c) (p.2.2.2.2.2.2 (64 * c + 8 * y + x)) = 0 then (1 : Int32) else 0) = 1 := if_pos q
      rw [e1, if_neg (by decide)]
      exact ⟨fun h => absurd q (h x (Nat.le_refl _) (by omega)), fun _ => rfl⟩
    · have e1 : (if sa_numb (p.2.2.2.2.1 c) (p.2.2.2.2.2.2 (64 * c + 8 * y + x)) = 0 then (1 : Int32) else 0) = 0 := if_neg q
      rw [e1, if_pos rfl]
      refine ⟨fun h => i1 (fun x' a b => h x' (by omega) b), fun ⟨x', a, b, d⟩ => i2 ⟨x', ?_, b, d⟩⟩
      rcases Nat.lt_or_ge x x' with z | z
      · omega
      · obtain rfl : x' = x := by omega
        exact absurd d q
set_option maxRecDepth 10000 in
set_option maxHeartbeats 2000000 in
theorem e_i13 {K : Int32 → Int32 → Int32 → mo_G → Option (Prod Int32 mo_G)} {g : mo_G} {p : pi_P} {k : Nat} (RSp : RS g p k) (G : GP p) (hS : SE p (g.2 8)) {c y0 ln : Nat} (hc : c < p.2.2.1) (hl : y0 + ln ≤ p.2.1) : ∀ (j y N : Nat), y + j = y0 + ln → j < N → ((∀ y' x', y ≤ y' → y' < y0 + ln → x' < p.1 → ¬ bd_ p c y' x') → l_isSound_13 K N (nI y0) (nI ln) (nI c) (nI y) g = K (nI y0) (nI ln) (nI c) g) ∧ ((∃ y' x', y ≤ y' ∧ y' < y0 + ln ∧ x' < p.1 ∧ bd_ p c y' x') → l_isSound_13 K N (nI y0) (nI ln) (nI c) (nI y) g = some (0, g)) := by
  have h8 := G.1.2
  have hy8 := G.2.1.2
  intro j
  induction j with
  | zero =>
    intro y N hy hN
    obtain ⟨N, rfl⟩ : ∃ m, N = m + 1 := ⟨N - 1, by omega⟩
    refine ⟨fun _ => ?_, fun ⟨y', x', a, b, _⟩ => by omega⟩
    rw [l_isSound_13, nI_add, if_pos (nI_le (by omega) (by omega))]
  | succ j ih =>
    intro y N hy hN
    obtain ⟨N, rfl⟩ : ∃ m, N = m + 1 := ⟨N - 1, by omega⟩
    obtain ⟨i1, i2⟩ := ih (y + 1) N (by omega) (by omega)
    rw [l_isSound_13, nI_add, if_neg (nI_ge (by omega) (by omega))]
    obtain ⟨a1, a2⟩ := e_i24 (K := fun y5 y6 y7 y8 g4 => (fun x1 x2 x3 x4 g => l_isSound_13 K N x1 x2 x3 x4 g) y5 y6 y7 (y8 + 1) g4) RSp G hS (c := c) (y := y) (a1 := nI y0) (a2 := nI ln) hc (by omega) p.1 0 2000 (by omega) (by omega)
    rw [nI_0] at a1 a2
    have a1' : (∀ x', 0 ≤ x' → x' < p.1 → ¬ bd_ p c y x') → l_isSound_24 (fun y5 y6 y7 y8 g4 => (fun x1 x2 x3 x4 g => l_isSound_13 K N x1 x2 x3 x4 g) y5 y6 y7 (y8 + 1) g4) 2000 (nI y0) (nI ln) (nI c) (nI y) 0 g = l_isSound_13 K N (nI y0) (nI ln) (nI c) (nI (y + 1)) g := fun h => by rw [← nI_1]; exact a1 h
    refine ⟨fun h => ?_, fun ⟨y', x', b1, b2, b3, b4⟩ => ?_⟩
    · rw [a1' (fun x' _ hx => h y x' (Nat.le_refl _) (by omega) hx)]
      exact i1 (fun y' x' z1 z2 z3 => h y' x' (by omega) z2 z3)
    · by_cases q : ∃ x'', x'' < p.1 ∧ bd_ p c y x''
      · obtain ⟨x'', c1, c2⟩ := q
        exact a2 ⟨x'', Nat.zero_le _, c1, c2⟩
      · rw [a1' (fun x'' _ hx hb => q ⟨x'', hx, hb⟩)]
        refine i2 ⟨y', x', ?_, b2, b3, b4⟩
        rcases Nat.lt_or_ge y y' with z | z
        · omega
        · obtain rfl : y' = y := by omega
          exact absurd ⟨x', b3, b4⟩ q
set_option maxRecDepth 10000 in
set_option maxHeartbeats 2000000 in
theorem e_i2 {g : mo_G} {p : pi_P} {k : Nat} (RSp : RS g p k) (G : GP p) (hS : SE p (g.2 8)) {y0 ln : Nat} (hl : y0 + ln ≤ p.2.1) : ∀ (j c N : Nat), c + j = p.2.2.1 → j < N → ((∀ c' y' x', c ≤ c' → c' < p.2.2.1 → y0 ≤ y' → y' < y0 + ln → x' < p.1 → ¬ bd_ p c' y' x') → l_isSound_2 (fun g13 => some (1, g13)) N (nI y0) (nI ln) (nI c) g = some (1, g)) ∧ ((∃ c' y' x', c ≤ c' ∧ c' < p.2.2.1 ∧ y0 ≤ y' ∧ y' < y0 + ln ∧ x' < p.1 ∧ bd_ p c' y' x') → l_isSound_2 (fun g13 => some (1, g13)) N (nI y0) (nI ln) (nI c) g = some (0, g)) := by
  have h3 := G.2.2.1
  have hy8 := G.2.1.2
  intro j
  induction j with
  | zero =>
    intro c N hc hN
    obtain ⟨N, rfl⟩ : ∃ m, N = m + 1 := ⟨N - 1, by omega⟩
    refine ⟨fun _ => ?_, fun ⟨c', y', x', a, b, _⟩ => by omega⟩
    rw [l_isSound_2, RSp.2.2.1, if_pos (nI_le (by omega) (by omega))]
  | succ j ih =>
    intro c N hc hN
    obtain ⟨N, rfl⟩ : ∃ m, N = m + 1 := ⟨N - 1, by omega⟩
    obtain ⟨i1, i2⟩ := ih (c + 1) N (by omega) (by omega)
    rw [l_isSound_2, RSp.2.2.1, if_neg (nI_ge (by omega) (by omega))]
    obtain ⟨a1, a2⟩ := e_i13 (K := fun y10 y11 y12 g9 => (fun x1 x2 x3 g => l_isSound_2 (fun g13 => some (1, g13)) N x1 x2 x3 g) y10 y11 (y12 + 1) g9) RSp G hS (c := c) (by omega) hl ln y0 2000 rfl (by omega)
    have a1' : (∀ y' x', y0 ≤ y' → y' < y0 + ln → x' < p.1 → ¬ bd_ p c y' x') → l_isSound_13 (fun y10 y11 y12 g9 => (fun x1 x2 x3 g => l_isSound_2 (fun g13 => some (1, g13)) N x1 x2 x3 g) y10 y11 (y12 + 1) g9) 2000 (nI y0) (nI ln) (nI c) (nI y0) g = l_isSound_2 (fun g13 => some (1, g13)) N (nI y0) (nI ln) (nI (c + 1)) g := fun h => by rw [← nI_1]; exact a1 h
    refine ⟨fun h => ?_, fun ⟨c', y', x', b1, b2, b3, b4, b5, b6⟩ => ?_⟩
    · rw [a1' (fun y' x' z1 z2 z3 => h c y' x' (Nat.le_refl _) (by omega) z1 z2 z3)]
      exact i1 (fun c' y' x' z0 z1 z2 z3 z4 => h c' y' x' (by omega) z1 z2 z3 z4)
    · by_cases q : ∃ y'' x'', y0 ≤ y'' ∧ y'' < y0 + ln ∧ x'' < p.1 ∧ bd_ p c y'' x''
      · exact a2 q
      · rw [a1' (fun y'' x'' z1 z2 z3 hb => q ⟨y'', x'', z1, z2, z3, hb⟩)]
        refine i2 ⟨c', y', x', ?_, b2, b3, b4, b5, b6⟩
        rcases Nat.lt_or_ge c c' with z | z
        · omega
        · obtain rfl : c' = c := by omega
          exact absurd ⟨y', x', b3, b4, b5, b6⟩ q
set_option maxRecDepth 10000 in
set_option maxHeartbeats 2000000 in
theorem okX_iff (p : pi_P) (c y : Nat) : ∀ (j x : Nat), pi_okX p c y j x = true ↔ ∀ x', x ≤ x' → x' < x + j → ¬ pi_bad p c x' y := by
  intro j
  induction j with
  | zero => intro x; exact ⟨fun _ x' a b => by omega, fun _ => rfl⟩
  | succ j ih =>
    intro x
    unfold pi_okX
    by_cases q : pi_bad p c x y
    · rw [if_pos q]
      exact ⟨fun h => Bool.noConfusion h, fun h => absurd q (h x (Nat.le_refl _) (by omega))⟩
    · rw [if_neg q, ih]
      constructor
      · intro h x' a b
        rcases Nat.lt_or_ge x x' with z | z
        · exact h x' (by omega) (by omega)
        · obtain rfl : x' = x := by omega
          exact q
      · intro h x' a b
        exact h x' (by omega) (by omega)
set_option maxRecDepth 10000 in
set_option maxHeartbeats 2000000 in
theorem okC_iff (p : pi_P) (y : Nat) : ∀ (j c : Nat), pi_okC p y j c = true ↔ ∀ c' x', c ≤ c' → c' < c + j → x' < p.1 → ¬ pi_bad p c' x' y := by
  intro j
  induction j with
  | zero => intro c; exact ⟨fun _ c' x' a b => by omega, fun _ => rfl⟩
  | succ j ih =>
    intro c
    unfold pi_okC
    rw [Bool.and_eq_true, okX_iff, ih]
    constructor
    · rintro ⟨h1, h2⟩ c' x' a b d
      rcases Nat.lt_or_ge c c' with z | z
      · exact h2 c' x' (by omega) (by omega) d
      · obtain rfl : c' = c := by omega
        exact h1 x' (Nat.zero_le _) (by omega)
    · intro h
      exact ⟨fun x' _ b => h c x' (Nat.le_refl _) (by omega) (by omega), fun c' x' a b d => h c' x' (by omega) (by omega) d⟩
set_option maxRecDepth 10000 in
set_option maxHeartbeats 2000000 in
theorem okY_iff (p : pi_P) : ∀ (j y : Nat), pi_okY p j y = true ↔ ∀ y' c' x', y ≤ y' → y' < y + j → c' < p.2.2.1 → x' < p.1 → ¬ pi_bad p c' x' y' := by
  intro j
  induction j with
  | zero => intro y; exact ⟨fun _ y' c' x' a b => by omega, fun _ => rfl⟩
  | succ j ih =>
    intro y
    unfold pi_okY
    rw [Bool.and_eq_true, okC_iff, ih]
    constructor
    · rintro ⟨h1, h2⟩ y' c' x' a b d e
      rcases Nat.lt_or_ge y y' with z | z
      · exact h2 y' c' x' (by omega) (by omega) d e
      · obtain rfl : y' = y := by omega
        exact h1 c' x' (Nat.zero_le _) (by omega) e
    · intro h
      exact ⟨fun c' x' _ b d => h y c' x' (Nat.le_refl _) (by omega) (by omega) d, fun y' c' x' a b d e => h y' c' x' (by omega) (by omega) d e⟩
def ZI (p : pi_P) (lo : Nat) : Prop := ∀ c y x, c < 3 → y < 8 → x < 8 → ¬ ON p 0 lo (64 * c + 8 * y + x) → p.2.2.2.2.2.2 (64 * c + 8 * y + x) = 0
set_option maxRecDepth 10000 in
set_option maxHeartbeats 2000000 in
theorem ZI.ch {p p' : pi_P} {y0 hi : Nat} (h : ZI p y0) (k : ch_ p p' y0 hi) (hh : y0 ≤ hi) : ZI p' hi := by
  intro c y x h1 h2 h3 h4
  have n1 : ¬ ON p 0 hi (64 * c + 8 * y + x) := fun z => h4 ((sm_ON k.1).mpr z)
  rw [k.2 _ (fun ⟨c', x', y', a1, a2, a3, a4, a5, a6⟩ => n1 ⟨c', x', y', a1, a2, Nat.zero_le _, a4, a5, a6⟩)]
  exact h c y x h1 h2 h3 (fun ⟨c', x', y', a1, a2, a3, a4, a5, a6⟩ => n1 ⟨c', x', y', a1, a2, a3, by omega, a5, a6⟩)
set_option maxRecDepth 10000 in
set_option maxHeartbeats 2000000 in
theorem ZI.ZC {p : pi_P} {y0 ln : Nat} (G : GP p) (h : ZI p y0) (hl : y0 + ln ≤ p.2.1) : ZC p 0 y0 ln := by
  intro c y x _ h1 h2 h3 h4
  have := G.1.2
  have := G.2.1.2
  refine h c y x h1 (by omega) h4 ?_
  rintro ⟨c', x', y', a1, a2, a3, a4, a5, a6⟩
  omega
set_option maxRecDepth 10000 in
set_option maxHeartbeats 2000000 in
theorem sa0 (t : Int32) : ¬ sa_numb t 0 = 0 := by
  unfold sa_numb
  split
  · decide
  · split <;> decide
set_option maxRecDepth 10000 in
set_option maxHeartbeats 2000000 in
theorem e_sound {g : mo_G} {p : pi_P} {k y0 ln : Nat} (RSp : RS g p k) (G : GP p) (hS : SE p (g.2 8)) (hl : y0 + ln ≤ p.2.1) (he : pi_end p y0 k = y0 + ln) (hz : ZI p (y0 + ln)) : r_isSound (nI y0) (nI ln) g = some (if pi_okN p y0 k = true then 1 else 0, g) := by
  have h8 := G.1.2
  have hy8 := G.2.1.2
  have h3 := G.2.2.1
  obtain ⟨a1, a2⟩ := e_i2 RSp G hS hl p.2.2.1 0 2000 (by omega) (by omega)
  have key : ∀ c' y' x', c' < p.2.2.1 → y0 ≤ y' → y' < y0 + ln → x' < p.1 → (bd_ p c' y' x' ↔ pi_bad p c' x' y') := by
    intro c' y' x' h1 h2 h4 h5
    constructor
    · intro hb
      refine ⟨⟨h1, h5, by omega, ?_⟩, hb⟩
      apply Decidable.byContradiction
      intro hn
      have z0 : p.2.2.2.2.2.2 (64 * c' + 8 * y' + x') = 0 := by
        refine hz c' y' x' (by omega) (by omega) (by omega) ?_
        rintro ⟨c2, x2, y2, b1, b2, b3, b4, b5, b6⟩
        obtain rfl : c2 = c' := by omega
        obtain rfl : y2 = y' := by omega
        obtain rfl : x2 = x' := by omega
        exact hn b5
      unfold bd_ at hb
      rw [z0] at hb
      exact sa0 _ hb
    · exact fun h => h.2
  have iff : pi_okN p y0 k = true ↔ ∀ y' c' x', y0 ≤ y' → y' < y0 + ln → c' < p.2.2.1 → x' < p.1 → ¬ pi_bad p c' x' y' := by
    unfold pi_okN
    rw [he, Nat.add_sub_cancel_left]
    exact okY_iff p ln y0
  unfold r_isSound
  by_cases q : pi_okN p y0 k = true
  · rw [if_pos q]
    exact a1 (fun c' y' x' _ z1 z2 z3 z4 hb => iff.mp q y' c' x' z2 z3 z1 z4 ((key c' y' x' z1 z2 z3 z4).mp hb))
  · rw [if_neg q]
    refine a2 (Classical.byContradiction (fun hn => q (iff.mpr (fun y' c' x' z1 z2 z3 z4 hb => hn ⟨c', y', x', Nat.zero_le _, z3, z1, z2, z4, (key c' y' x' z3 z1 z2 z4).mpr hb⟩))))
