set_option maxRecDepth 10000 in
set_option maxHeartbeats 2000000 in
theorem by_addN_1 (x : Int32) : ∀ (j i : Nat) (b : by_B), b.1 + j ≤ 384 → (by_addN 384 x j i b).1 = b.1 + j := by
  intro j
  induction j with
  | zero => intro i b _; rfl
  | succ j ih =>
    intro i b hb
    show (by_addN 384 x j (i + 1) (by_add 384 b (mj_ush x (8 * nI i)))).1 = _
    rw [ih _ _ (by rw [by_add_1 (by omega)]; omega), by_add_1 (by omega)]
    omega
set_option maxRecDepth 10000 in
set_option maxHeartbeats 2000000 in
theorem e_pm {K : mo_G → Option mo_G} {x : Int32} {g : mo_G} : ∀ (j i n : Nat) (b : by_B) (f : Nat → Int32), by_eq b f → b.1 + j ≤ 384 → i + j ≤ 4 → j < n → ∃ f', by_eq (by_addN 384 x j i b) f' ∧ l_putMany_2 K n x (nI (i + j)) (nI i) (mo_raw g b.1 f) = K (mo_raw g (b.1 + j) f') := by
  intro j
  induction j with
  | zero =>
    intro i n b f hf hb hi hn
    obtain ⟨n, rfl⟩ : ∃ m, n = m + 1 := ⟨n - 1, by omega⟩
    refine ⟨f, hf, ?_⟩
    rw [l_putMany_2, if_pos (nI_le (by omega) (by omega))]
    rfl
  | succ j ih =>
    intro i n b f hf hb hi hn
    obtain ⟨n, rfl⟩ : ∃ m, n = m + 1 := ⟨n - 1, by omega⟩
    obtain ⟨f', h1, h2⟩ := ih (i + 1) n (by_add 384 b (mj_ush x (8 * nI i))) _ (by_eq_add hf (by omega)) (by rw [by_add_1 (by omega)]; omega) (by omega) (by omega)
    refine ⟨f', h1, ?_⟩
    rw [l_putMany_2, if_neg (nI_ge (by omega) (by omega)), e_put (by omega), Option.bind_some, nI_1, sh_8 x (by omega)]
    rw [by_add_1 (by omega), show i + 1 + j = i + (j + 1) by omega, show b.1 + 1 + j = b.1 + (j + 1) by omega] at h2
    exact h2
set_option maxRecDepth 10000 in
set_option maxHeartbeats 2000000 in
theorem e_putMany {x : Int32} {g : mo_G} {b : by_B} {f : Nat → Int32} {k : Nat} (hf : by_eq b f) (hb : b.1 + k ≤ 384) (hk : k ≤ 4) : ∃ f', by_eq (by_addN 384 x k 0 b) f' ∧ r_putMany x (nI k) (mo_raw g b.1 f) = some (mo_raw g (b.1 + k) f') := by
  obtain ⟨f', h1, h2⟩ := e_pm (K := fun g => some g) (x := x) (g := g) k 0 2000 b f hf hb (by omega) (by omega)
  refine ⟨f', h1, ?_⟩
  rw [Nat.zero_add] at h2
  exact h2
def RP (g : mo_G) (p : pi_P) : Prop := g.1 0 = nI p.1 ∧ g.1 1 = nI p.2.1 ∧ g.1 2 = nI p.2.2.1 ∧ (∀ c, c < p.2.2.1 → g.2 0 c = p.2.2.2.1 c ∧ g.2 1 c = p.2.2.2.2.1 c ∧ g.2 2 c = p.2.2.2.2.2.1 c) ∧ ∀ k, k < 192 → g.2 3 k = p.2.2.2.2.2.2 k
def GP (p : pi_P) : Prop := (1 ≤ p.1 ∧ p.1 ≤ 8) ∧ (1 ≤ p.2.1 ∧ p.2.1 ≤ 8) ∧ p.2.2.1 ≤ 3 ∧ ∀ c, c < p.2.2.1 → (p.2.2.2.2.2.1 c = 1 ∨ p.2.2.2.2.2.1 c = 2) ∧ (p.2.2.2.2.1 c = 0 ∨ p.2.2.2.2.1 c = 1 ∨ p.2.2.2.2.1 c = 2)
set_option maxRecDepth 10000 in
set_option maxHeartbeats 2000000 in
theorem RP.raw {g : mo_G} {p : pi_P} {n : Nat} {f : Nat → Int32} (h : RP g p) : RP (mo_raw g n f) p := h
set_option maxRecDepth 10000 in
set_option maxHeartbeats 2000000 in
theorem ix3 (c y x : Nat) : 64 * nI c + 8 * nI y + nI x = nI (64 * c + 8 * y + x) := by
  rw [show (64 : Int32) = nI 64 from rfl, show (8 : Int32) = nI 8 from rfl, pk_mul, pk_mul, nI_add, nI_add]
set_option maxRecDepth 10000 in
set_option maxHeartbeats 2000000 in
theorem and_shl (z m : BitVec 32) (s : Nat) : z &&& (m <<< s) = ((z >>> s) &&& m) <<< s := by
  apply BitVec.eq_of_getLsbD_eq
  intro i hi
  rw [BitVec.getLsbD_and, BitVec.getLsbD_shiftLeft, BitVec.getLsbD_shiftLeft, BitVec.getLsbD_and, BitVec.getLsbD_ushiftRight]
  by_cases q : i < s
  · simp [q]
  · rw [show s + (i - s) = i by omega]
    simp [q, hi]
set_option maxRecDepth 10000 in
set_option maxHeartbeats 2000000 in
theorem fld_iff (z : Int32) : (z >>> (23 &&& 31)) &&& 255 = 255 ↔ z &&& 2139095040 = 2139095040 := by
  rw [← Int32.toBitVec_inj, ← Int32.toBitVec_inj]
  show z.toBitVec.sshiftRight 23 &&& 255#32 = 255#32 ↔ z.toBitVec &&& (255#32 <<< 23) = 255#32 <<< 23
  rw [sh_s _ (by omega), and_shl]
  constructor
  · intro h
    rw [h]
  · intro h
    apply BitVec.eq_of_toNat_eq
    have h2 := congrArg BitVec.toNat h
    rw [BitVec.toNat_shiftLeft, BitVec.toNat_shiftLeft, Nat.shiftLeft_eq, Nat.shiftLeft_eq] at h2
    have h3 : (z.toBitVec >>> 23 &&& 255#32).toNat ≤ 255 := by
      rw [BitVec.toNat_and]
      exact Nat.and_le_right
    rw [Nat.mod_eq_of_lt (by omega), show (255#32).toNat = 255 from rfl] at h2
    show _ = 255
    omega
set_option maxRecDepth 10000 in
set_option maxHeartbeats 2000000 in
theorem e_cut (b : Int32) : r_cutBits b = some (sa_short b) := by
  unfold r_cutBits sa_short j_cutBits_25
  by_cases q : (b + 128) &&& 2139095040 = 2139095040
  · rw [if_pos ((fld_iff _).mpr q), if_pos q]
    rfl
  · rw [if_neg (fun z => q ((fld_iff _).mp z)), if_neg q]
    rfl
set_option maxRecDepth 10000 in
set_option maxHeartbeats 2000000 in
theorem on_lt {p : pi_P} {c i : Nat} (G : GP p) (hc : c < p.2.2.1) (h : i < pi_on p c p.1) : i * pi_st p c < p.1 := by
  unfold pi_on at h
  unfold pi_st
  split at h
  · rw [if_pos (by assumption)]
    omega
  · rw [if_neg (by assumption)]
    omega
set_option maxRecDepth 10000 in
set_option maxHeartbeats 2000000 in
theorem on_ge {p : pi_P} {c i : Nat} (h : pi_on p c p.1 ≤ i) : p.1 ≤ i * pi_st p c := by
  unfold pi_on at h
  unfold pi_st
  split at h
  · rw [if_pos (by assumption)]
    omega
  · rw [if_neg (by assumption)]
    omega
set_option maxRecDepth 10000 in
set_option maxHeartbeats 2000000 in
theorem st_eq {p : pi_P} {c : Nat} (G : GP p) (hc : c < p.2.2.1) : p.2.2.2.2.2.1 c = nI (pi_st p c) := by
  unfold pi_st
  rcases (G.2.2.2 c hc).1 with q | q
  · rw [if_pos q, q]
    rfl
  · rw [if_neg (by rw [q]; decide), q]
    rfl
abbrev g_nb (p : pi_P) (c y k i : Nat) : Int32 := if rf_by (p.2.2.2.2.1 c) k = 3 then sa_short (p.2.2.2.2.2.2 (64 * c + 8 * y + i * pi_st p c)) else p.2.2.2.2.2.2 (64 * c + 8 * y + i * pi_st p c)
set_option maxRecDepth 10000 in
set_option maxHeartbeats 2000000 in
theorem e_g1 {K : Int32 → Int32 → Int32 → Int32 → Int32 → mo_G → Option mo_G} {g : mo_G} {p : pi_P} (R : RP g p) (G : GP p) {c y k m n i : Nat} {a1 a2 bf : Int32} (hc : c < p.2.2.1) (hy : y < p.2.1) (hmk : m = 0 ∧ ¬ k = 2 ∨ (m = 1 ∨ m = 2) ∧ k = 2) (hi : i < pi_on p c p.1) (h0 : i = 0 → bf = 0) : l_gather_50 K (n + 1) a1 a2 (nI m) (nI y) (nI c) bf (nI (i * pi_st p c)) g = (r_putMany (if (if m = 2 then (1 : Int32) else 0) = 0 then g_nb p c y k i else g_nb p c y k i - bf) (nI (rf_by (p.2.2.2.2.1 c) k)) g).bind (fun z => og (vp_in (nI c) 3) (l_gather_50 K n a1 a2 (nI m) (nI y) (nI c) (g_nb p c y k i) (nI (i * pi_st p c) + z.2 2 (nI c).toNatClampNeg) z)) := by
  have hx := on_lt G hc hi
  have h8 := G.1.2
  have hy8 := G.2.1.2
  have h3 := G.2.2.1
  have hxx : 64 * c + 8 * y + i * pi_st p c < 192 := by omega
  have es : g.2 3 (64 * c + 8 * y + i * pi_st p c) = p.2.2.2.2.2.2 (64 * c + 8 * y + i * pi_st p c) := R.2.2.2.2 _ hxx
  have et : g.2 1 c = p.2.2.2.2.1 c := (R.2.2.2.1 c hc).2.1
  have hm : m < 3 := by omega
  rw [l_gather_50, R.1, if_neg (nI_ge hx (by omega)), ix3, og_t (vp_in_nI hxx (by decide)), nI_clamp (by omega), es]
  have cc : (nI c).toNatClampNeg = c := nI_clamp (by omega)
  have gc := vp_in_nI (n := c) (N := 3) (by omega) (by decide)
  unfold j_gather_103 j_gather_105 j_gather_126 j_gather_128 j_gather_152
  simp only [og_t gc, cc, et, e_cut, Option.bind_some]
  have f0 : ((0 : Int32) ≤ 0) := by decide
  have f1 : ¬ (nI 1 ≤ 0) := by decide
  have f2 : ¬ (nI 2 ≤ 0) := by decide
  have f3 : ¬ (nI 1 = 2) := by decide
  have f4 : (nI 2 = 2) := by decide
  have f5 : nI 0 ≤ 0 := by decide
  have f6 : ¬ nI 0 = 2 := by decide
  have f7 : ¬ (1 : Int32) = 0 := by decide
  have hx0 : nI (i * pi_st p c) ≤ 0 → bf = 0 := fun q => h0 (by
    rcases Nat.lt_or_ge 0 i with q2 | q2
    · exact absurd q (nI_nle (Nat.mul_pos q2 (by unfold pi_st; split <;> omega)) (by omega))
    · omega)
  have hb0 : ∀ v : Int32, v - 0 = v := Int32.sub_zero
  unfold g_nb rf_by
  rcases hmk with ⟨rfl, hk⟩ | ⟨rfl | rfl, rfl⟩
  · by_cases t : p.2.2.2.2.1 c = 1
    · simp only [f5, f6, t, hk, if_true, if_false, if_pos]
      rfl
    · simp only [f5, f6, t, hk, if_true, if_false, if_pos]
      rfl
  · by_cases t : p.2.2.2.2.1 c = 1
    · simp only [f1, f3, t, if_true, if_false]
      rfl
    · simp only [f1, f3, t, if_true, if_false]
      rfl
  · by_cases t : p.2.2.2.2.1 c = 1
    · by_cases q : nI (i * pi_st p c) ≤ 0
      · simp only [f2, f4, f7, t, q, hx0 q, hb0, if_true, if_false]
        rfl
      · simp only [f2, f4, f7, t, q, if_true, if_false]
        rfl
    · by_cases q : nI (i * pi_st p c) ≤ 0
      · simp only [f2, f4, f7, t, q, hx0 q, hb0, if_true, if_false]
        rfl
      · simp only [f2, f4, f7, t, q, if_true, if_false]
        rfl
