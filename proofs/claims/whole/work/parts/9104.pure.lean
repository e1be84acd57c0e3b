set_option maxRecDepth 10000 in
set_option maxHeartbeats 2000000 in
theorem by_get_at {b : by_B} {k : Nat} (hk : k < b.1) (hb : b.1 < 2 ^ 31) : by_get b (nI k) = b.2.2 k := by
  unfold by_get
  rw [if_neg (nI_pos (by omega)), if_pos (nI_lt hk hb), nI_clamp (by omega)]
set_option maxRecDepth 10000 in
set_option maxHeartbeats 2000000 in
theorem b255 {j : Nat} (h : j < 256) : nI j &&& 255 = nI j := by
  rw [pk_andN (by omega) 8 (by decide), Nat.mod_eq_of_lt (by omega)]
set_option maxRecDepth 10000 in
set_option maxHeartbeats 2000000 in
theorem by_ok_add {N : Nat} {b : by_B} (x : Int32) (h : by_ok b) : by_ok (by_add N b x) := by
  unfold by_add
  split
  · intro k hk
    show ∃ j : Nat, j < 256 ∧ upd b.2.2 b.1 (x &&& 255) k = nI j
    by_cases q : k = b.1
    · rw [q, ux_s]
      exact pk_andE x 8 (by decide)
    · rw [ux_n q]
      exact h k (by have : k < b.1 + 1 := hk; omega)
  · exact h
set_option maxRecDepth 10000 in
set_option maxHeartbeats 2000000 in
theorem by_ok_chg {b : by_B} (k x : Int32) (h : by_ok b) : by_ok (by_chg b k x) := by
  unfold by_chg
  split
  · exact h
  · split
    · intro i hi
      show ∃ j : Nat, j < 256 ∧ upd b.2.2 k.toNatClampNeg (x &&& 255) i = nI j
      by_cases q : i = k.toNatClampNeg
      · rw [q, ux_s]
        exact pk_andE x 8 (by decide)
      · rw [ux_n q]
        exact h i hi
    · exact h
set_option maxRecDepth 10000 in
set_option maxHeartbeats 2000000 in
theorem by_ok_0 (f : Nat → Int32) (c : Nat) : by_ok (0, c, f) := fun k hk => absurd hk (Nat.not_lt_zero k)
set_option maxRecDepth 10000 in
set_option maxHeartbeats 2000000 in
theorem by_ok_addN (N : Nat) (x : Int32) : ∀ (j k : Nat) (b : by_B), by_ok b → by_ok (by_addN N x j k b)
  | 0, _, _, h => h
  | j + 1, _, _, h => by_ok_addN N x j _ _ (by_ok_add _ h)
set_option maxRecDepth 10000 in
set_option maxHeartbeats 2000000 in
theorem by_ok_addP (N : Nat) (b2 : by_B) : ∀ (j k : Nat) (b : by_B), by_ok b → by_ok (by_addP N b2 j k b)
  | 0, _, _, h => h
  | j + 1, _, _, h => by_ok_addP N b2 j _ _ (by_ok_add _ h)
set_option maxRecDepth 10000 in
set_option maxHeartbeats 2000000 in
theorem by_ok_ln (p : pi_P) (c y k : Nat) (df : Int32) : ∀ (j i : Nat) (bf : Int32) (r : by_B), by_ok r → by_ok (co_ln p c y k df j i bf r)
  | 0, _, _, _, h => h
  | j + 1, _, _, _, h => by_ok_ln p c y k df j _ _ _ (by_ok_addN _ _ _ _ _ h)
set_option maxRecDepth 10000 in
set_option maxHeartbeats 2000000 in
theorem by_ok_lnC (p : pi_P) (y k : Nat) (df : Int32) : ∀ (j c : Nat) (r : by_B), by_ok r → by_ok (co_lnC p y k df j c r)
  | 0, _, _, h => h
  | j + 1, c, r, h => by
    unfold co_lnC
    refine by_ok_lnC p y k df j _ _ ?_
    split
    · exact by_ok_ln _ _ _ _ _ _ _ _ _ h
    · exact h
set_option maxRecDepth 10000 in
set_option maxHeartbeats 2000000 in
theorem by_ok_lnY (p : pi_P) (k : Nat) (df : Int32) : ∀ (j y : Nat) (r : by_B), by_ok r → by_ok (co_lnY p k df j y r)
  | 0, _, _, h => h
  | j + 1, _, _, h => by_ok_lnY p k df j _ _ (by_ok_lnC _ _ _ _ _ _ _ h)
set_option maxRecDepth 10000 in
set_option maxHeartbeats 2000000 in
theorem by_ok.at2 {b : by_B} (h : by_ok b) {k : Nat} (hk : k < b.1) : b.2.2 k &&& 255 = b.2.2 k := by
  obtain ⟨j, h1, h2⟩ := h k hk
  rw [h2, b255 h1]
def ro (f : Nat → Int32) (n k : Nat) : Int32 := f (if k < (n + 1) / 2 then 2 * k else 2 * (k - (n + 1) / 2) + 1)
def pr (f : Nat → Int32) (n k : Nat) : Int32 := if k = 0 then ro f n 0 else (ro f n k - ro f n (k - 1) + 128) &&& 255
set_option maxRecDepth 10000 in
set_option maxHeartbeats 2000000 in
theorem pa_st_at (b2 : by_B) (ok : by_ok b2) (h2 : b2.1 ≤ 384) : ∀ (n k : Nat) (b : by_B), b2.1 ≤ n + k → b.1 + (b2.1 + 1 - k) / 2 ≤ 384 → (pa_st b2 n k b).1 = b.1 + (b2.1 + 1 - k) / 2 ∧ (∀ i, i < b.1 → (pa_st b2 n k b).2.2 i = b.2.2 i) ∧ ∀ i, i < (b2.1 + 1 - k) / 2 → (pa_st b2 n k b).2.2 (b.1 + i) = b2.2.2 (k + 2 * i) := by
  intro n
  induction n with
  | zero =>
    intro k b hk hb
    refine ⟨?_, fun i _ => rfl, fun i hi => ?_⟩
    · show b.1 = _
      omega
    · omega
  | succ n ih =>
    intro k b hk hb
    unfold pa_st
    by_cases q : k < b2.1
    · rw [if_pos q]
      have hg : by_get b2 (nI k) = b2.2.2 k := by_get_at q (by omega)
      have ha : (by_add 384 b (by_get b2 (nI k))) = (b.1 + 1, b.2.1, upd b.2.2 b.1 (b2.2.2 k)) := by
        unfold by_add
        rw [if_pos (by omega), hg, ok.at2 q]
      rw [ha]
      obtain ⟨h1, h3, h4⟩ := ih (k + 2) (b.1 + 1, b.2.1, upd b.2.2 b.1 (b2.2.2 k)) (by omega) (by show b.1 + 1 + _ ≤ _; omega)
      refine ⟨?_, fun i hi => ?_, fun i hi => ?_⟩
      · rw [h1]
        show b.1 + 1 + _ = _
        omega
      · rw [h3 i (by show i < b.1 + 1; omega)]
        exact ux_n (by omega)
      · rcases Nat.eq_zero_or_pos i with z | z
        · subst z
          rw [h3 _ (by show b.1 + 0 < b.1 + 1; omega)]
          exact if_pos rfl
        · have := h4 (i - 1) (by omega)
          rw [show b.1 + i = b.1 + 1 + (i - 1) by omega]
          refine this.trans ?_
          rw [show k + 2 + 2 * (i - 1) = k + 2 * i by omega]
    · rw [if_neg q]
      refine ⟨by omega, fun i _ => rfl, fun i hi => by omega⟩
set_option maxRecDepth 10000 in
set_option maxHeartbeats 2000000 in
theorem pa_srt_at (b2 b : by_B) (ok : by_ok b2) (h2 : b2.1 ≤ 384) : (pa_srt b2 b).1 = b2.1 ∧ ∀ i, i < b2.1 → (pa_srt b2 b).2.2 i = ro b2.2.2 b2.1 i := by
  unfold pa_srt
  obtain ⟨h1, _, h4⟩ := pa_st_at b2 ok h2 b2.1 0 (0, 0, b.2.2) (by omega) (by show 0 + _ ≤ _; omega)
  obtain ⟨h5, h6, h7⟩ := pa_st_at b2 ok h2 b2.1 1 (pa_st b2 b2.1 0 (0, 0, b.2.2)) (by omega) (by rw [h1]; show 0 + _ + _ ≤ _; omega)
  have e1 : (pa_st b2 b2.1 0 (0, 0, b.2.2)).1 = (b2.1 + 1) / 2 := by rw [h1]; show 0 + _ = _; omega
  refine ⟨by rw [h5, e1]; omega, fun i hi => ?_⟩
  unfold ro
  by_cases q : i < (b2.1 + 1) / 2
  · rw [if_pos q, h6 i (by omega)]
    have := h4 i (by omega)
    rw [show (0, 0, b.2.2).1 + i = i by show 0 + i = i; omega, Nat.zero_add] at this
    exact this
  · rw [if_neg q]
    have := h7 (i - (b2.1 + 1) / 2) (by omega)
    rw [e1, show (b2.1 + 1) / 2 + (i - (b2.1 + 1) / 2) = i by omega] at this
    rw [this, Nat.add_comm]
set_option maxRecDepth 10000 in
set_option maxHeartbeats 2000000 in
theorem pa_dif_at : ∀ (k : Nat) (b : by_B), k < b.1 → b.1 ≤ 384 → (∀ i, k < i → (pa_dif k b).2.2 i = b.2.2 i) ∧ (pa_dif k b).2.2 0 = b.2.2 0 ∧ ∀ i, 0 < i → i ≤ k → (pa_dif k b).2.2 i = (b.2.2 i - b.2.2 (i - 1) + 128) &&& 255 := by
  intro k
  induction k with
  | zero => intro b _ _; exact ⟨fun i _ => rfl, rfl, fun i h1 h2 => by omega⟩
  | succ k ih =>
    intro b hk hb
    have hc : by_chg b (nI (k + 1)) (by_get b (nI (k + 1)) - by_get b (nI k) + 128) = (b.1, b.2.1, upd b.2.2 (k + 1) ((b.2.2 (k + 1) - b.2.2 k + 128) &&& 255)) := by
      unfold by_chg
      rw [if_neg (nI_pos (by omega)), if_pos (nI_lt hk (by omega)), nI_clamp (by omega), by_get_at hk (by omega), by_get_at (by omega) (by omega)]
    unfold pa_dif
    rw [hc]
    obtain ⟨h1, h2, h3⟩ := ih (b.1, b.2.1, upd b.2.2 (k + 1) ((b.2.2 (k + 1) - b.2.2 k + 128) &&& 255)) (by show k < b.1; omega) hb
    refine ⟨fun i hi => ?_, ?_, fun i h4 h5 => ?_⟩
    · rw [h1 i (by omega)]
      exact ux_n (by omega)
    · exact h2
    · by_cases q : i = k + 1
      · subst q
        rw [h1 _ (by omega)]
        exact if_pos rfl
      · rw [h3 i h4 (by omega)]
        show (upd b.2.2 (k + 1) _ i - upd b.2.2 (k + 1) _ (i - 1) + 128) &&& 255 = _
        rw [ux_n q, ux_n (by omega)]
set_option maxRecDepth 10000 in
set_option maxHeartbeats 2000000 in
theorem pa_ds_at (b2 b : by_B) (ok : by_ok b2) (h2 : b2.1 ≤ 384) : (pa_ds b2 b).1 = b2.1 ∧ ∀ i, i < b2.1 → (pa_ds b2 b).2.2 i = pr b2.2.2 b2.1 i := by
  obtain ⟨h1, h3⟩ := pa_srt_at b2 b ok h2
  unfold pa_ds
  refine ⟨by rw [pa_dif_le, h1], fun i hi => ?_⟩
  obtain ⟨_, h5, h6⟩ := pa_dif_at ((pa_srt b2 b).1 - 1) (pa_srt b2 b) (by omega) (by omega)
  unfold pr
  by_cases q : i = 0
  · rw [if_pos q, q, h5, h3 0 (by omega)]
  · rw [if_neg q, h6 i (by omega) (by omega), h3 i hi, h3 (i - 1) (by omega)]
