set_option maxRecDepth 10000 in
set_option maxHeartbeats 2000000 in
theorem ux {f : Nat → Int32} {k : Nat} {x y : Int32} : upd (upd f k x) k y = upd f k y := by
  funext j
  unfold upd
  split <;> rfl
set_option maxRecDepth 10000 in
set_option maxHeartbeats 2000000 in
theorem ux_s {f : Nat → Int32} {k : Nat} {x : Int32} : upd f k x k = x := if_pos rfl
set_option maxRecDepth 10000 in
set_option maxHeartbeats 2000000 in
theorem ux_n {f : Nat → Int32} {k j : Nat} {x : Int32} (h : ¬ j = k) : upd f k x j = f j := if_neg h
set_option maxRecDepth 10000 in
set_option maxHeartbeats 2000000 in
theorem uA {A : Nat → Nat → Int32} {k : Nat} {f g : Nat → Int32} : mo_uA (mo_uA A k f) k g = mo_uA A k g := by
  funext j
  unfold mo_uA
  split <;> rfl
set_option maxRecDepth 10000 in
set_option maxHeartbeats 2000000 in
theorem uA_s {A : Nat → Nat → Int32} {k : Nat} {f : Nat → Int32} : mo_uA A k f k = f := if_pos rfl
set_option maxRecDepth 10000 in
set_option maxHeartbeats 2000000 in
theorem uA_n {A : Nat → Nat → Int32} {k j : Nat} {f : Nat → Int32} (h : ¬ j = k) : mo_uA A k f j = A j := if_neg h
def mo_raw (g : mo_G) (n : Nat) (f : Nat → Int32) : mo_G := (upd g.1 6 (nI n), mo_uA g.2 9 f)
set_option maxRecDepth 10000 in
set_option maxHeartbeats 2000000 in
theorem mo_rr {g : mo_G} {n m : Nat} {f k : Nat → Int32} : mo_raw (mo_raw g n f) m k = mo_raw g m k := by
  unfold mo_raw
  simp only [ux, uA]
def by_eq (b : by_B) (f : Nat → Int32) : Prop := ∀ k, k < b.1 → f k = b.2.2 k
set_option maxRecDepth 10000 in
set_option maxHeartbeats 2000000 in
theorem by_eq_add {N : Nat} {b : by_B} {f : Nat → Int32} {x : Int32} (h : by_eq b f) (hn : b.1 < N) : by_eq (by_add N b x) (upd f b.1 (x &&& 255)) := by
  unfold by_add
  rw [if_pos hn]
  intro k hk
  change k < b.1 + 1 at hk
  show upd f b.1 (x &&& 255) k = upd b.2.2 b.1 (x &&& 255) k
  by_cases q : k = b.1
  · rw [q, ux_s, ux_s]
  · rw [ux_n q, ux_n q]
    exact h k (by omega)
set_option maxRecDepth 10000 in
set_option maxHeartbeats 2000000 in
theorem by_add_1 {N : Nat} {b : by_B} {x : Int32} (hn : b.1 < N) : (by_add N b x).1 = b.1 + 1 := by
  unfold by_add
  rw [if_pos hn]
set_option maxRecDepth 10000 in
set_option maxHeartbeats 2000000 in
theorem e_put {g : mo_G} {n : Nat} {f : Nat → Int32} {x : Int32} (hn : n < 800) : r_put x (mo_raw g n f) = some (mo_raw g (n + 1) (upd f n (x &&& 255))) := by
  show og (vp_in (nI n) 800) (some (upd (upd g.1 6 (nI n)) 6 (nI n + 1), mo_uA (mo_uA g.2 9 f) 9 (upd f (nI n).toNatClampNeg (x &&& 255)))) = _
  rw [og_t (vp_in_nI hn (by decide)), nI_clamp (by omega), nI_1, ux, uA]
  rfl
set_option maxRecDepth 10000 in
set_option maxHeartbeats 2000000 in
theorem sh_s (x : BitVec 32) {s : Nat} (hs : s ≤ 24) : (x.sshiftRight s) &&& 255#32 = (x >>> s) &&& 255#32 := by
  apply BitVec.eq_of_getLsbD_eq
  intro i hi
  rw [BitVec.getLsbD_and, BitVec.getLsbD_and, BitVec.getLsbD_sshiftRight, BitVec.getLsbD_ushiftRight]
  by_cases q : i < 8
  · rw [if_pos (by omega)]
    have : ¬ 32 ≤ i := by omega
    simp [this]
  · have e : (255#32).getLsbD i = false := by
      have e2 : (255#32) = BitVec.ofNat 32 (2 ^ 8 - 1) := by decide
      rw [e2, BitVec.getLsbD_ofNat, Nat.testBit_two_pow_sub_one]
      simp [q]
    simp [e]
set_option maxRecDepth 10000 in
set_option maxHeartbeats 2000000 in
theorem sh_8 (x : Int32) {i : Nat} (hi : i < 4) : (x >>> ((8 * nI i) &&& 31)) &&& 255 = mj_ush x (8 * nI i) &&& 255 := by
  apply Int32.toBitVec_inj.mp
  rcases Nat.lt_or_ge i 1 with q | q
  · obtain rfl : i = 0 := by omega
    exact sh_s x.toBitVec (s := 0) (by omega)
  rcases Nat.lt_or_ge i 2 with q | q
  · obtain rfl : i = 1 := by omega
    exact sh_s x.toBitVec (s := 8) (by omega)
  rcases Nat.lt_or_ge i 3 with q | q
  · obtain rfl : i = 2 := by omega
    exact sh_s x.toBitVec (s := 16) (by omega)
  · obtain rfl : i = 3 := by omega
    exact sh_s x.toBitVec (s := 24) (by omega)
