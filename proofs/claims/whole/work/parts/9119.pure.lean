def upos (n k : Nat) : Nat := if k < (n + 1) / 2 then 2 * k else 2 * (k - (n + 1) / 2) + 1
set_option maxRecDepth 10000 in
set_option maxHeartbeats 2000000 in
theorem e_u259 {K : mo_G → Option mo_G} {g : mo_G} {n : Nat} (h6 : g.1 6 = nI n) (hn : n ≤ 384) : ∀ (j k N : Nat) (f : Nat → Int32), k + j = n → j < N → ∃ f', (∀ i, i < n → (∃ m, m < k ∧ upos n m = i) → f' i = f i) ∧ (∀ m, k ≤ m → m < n → f' (upos n m) = g.2 10 m) ∧ l_unpack_259 K N (nI ((n + 1) / 2)) (nI k) (g.1, mo_uA g.2 9 f) = K (g.1, mo_uA g.2 9 f') := by
  intro j
  induction j with
  | zero =>
    intro k N f hk hN
    obtain ⟨N, rfl⟩ : ∃ m, N = m + 1 := ⟨N - 1, by omega⟩
    refine ⟨f, fun _ _ _ => rfl, fun m h1 h2 => by omega, ?_⟩
    rw [l_unpack_259, show (g.1, mo_uA g.2 9 f).1 6 = nI n from h6, if_pos (nI_le (by omega) (by omega))]
  | succ j ih =>
    intro k N f hk hN
    obtain ⟨N, rfl⟩ : ∃ m, N = m + 1 := ⟨N - 1, by omega⟩
    obtain ⟨f', h1, h2, h3⟩ := ih (k + 1) N (upd f (upos n k) (g.2 10 k)) (by omega) (by omega)
    have inj : ∀ a b, a < n → b < n → upos n a = upos n b → a = b := by
      intro a b ha hb e
      unfold upos at e
      split at e <;> split at e <;> omega
    have hup : upos n k < n := by unfold upos; split <;> omega
    refine ⟨f', fun i hi hm => ?_, fun m hm1 hm2 => ?_, ?_⟩
    · obtain ⟨m, m1, m2⟩ := hm
      rw [h1 i hi ⟨m, by omega, m2⟩, ux_n]
      intro z
      have := inj m k (by omega) (by omega) (by rw [m2, z])
      omega
    · by_cases q : m = k
      · subst q
        rw [h1 _ hup ⟨m, by omega, rfl⟩, ux_s]
      · exact h2 m (by omega) hm2
    · rw [l_unpack_259, show (g.1, mo_uA g.2 9 f).1 6 = nI n from h6, if_neg (nI_ge (by omega) (by omega))]
      rw [← h3]
      have key : ∀ s : Nat, s = upos n k → j_unpack_293 K (fun x3 x4 g => l_unpack_259 K N x3 x4 g) (nI ((n + 1) / 2)) (nI k) (nI s) (g.1, mo_uA g.2 9 f) = l_unpack_259 K N (nI ((n + 1) / 2)) (nI (k + 1)) (g.1, mo_uA g.2 9 (upd f (upos n k) (g.2 10 k))) := by
        intro s hs
        unfold j_unpack_293
        rw [og_t (vp_in_nI (by omega) (by decide)), og_t (vp_in_nI (by omega) (by decide)), nI_clamp (by omega), nI_clamp (by omega), nI_1]
        show l_unpack_259 K N _ _ (g.1, mo_uA (mo_uA g.2 9 f) 9 (upd f s (g.2 10 k))) = _
        rw [uA, hs]
      by_cases q : k < (n + 1) / 2
      · rw [if_neg (nI_ge q (by omega)), show (2 : Int32) = nI 2 from rfl, pk_mul]
        exact key _ (by unfold upos; rw [if_pos q])
      · rw [if_pos (nI_le (by omega) (by omega)), pk_sub (by omega), show (2 : Int32) = nI 2 from rfl, pk_mul, nI_1]
        exact key _ (by unfold upos; rw [if_neg q])
set_option maxRecDepth 10000 in
set_option maxHeartbeats 2000000 in
theorem uns_at (n : Nat) (B : by_B) (ok : by_ok B) (hB : B.1 ≤ 384) (hn : 384 ≤ n) (h31 : n < 2 ^ 31) : ∀ (j k : Nat) (t : by_B), k + j = B.1 → t.1 = k → (pa_uns n B j k t).1 = B.1 ∧ (∀ i, i < k → (pa_uns n B j k t).2.2 i = t.2.2 i) ∧ ∀ i, k ≤ i → i < B.1 → (pa_uns n B j k t).2.2 i = B.2.2 (if i % 2 = 0 then i / 2 else (B.1 + 1) / 2 + i / 2) := by
  intro j
  induction j with
  | zero => intro k t hk ht; exact ⟨by show t.1 = _; omega, fun _ _ => rfl, fun i h1 h2 => by omega⟩
  | succ j ih =>
    intro k t hk ht
    have hq : (if k % 2 = 0 then k / 2 else (B.1 + 1) / 2 + k / 2) < B.1 := by split <;> omega
    have ha : by_add n t (by_get B (nI (if k % 2 = 0 then k / 2 else (B.1 + 1) / 2 + k / 2))) = (t.1 + 1, t.2.1, upd t.2.2 t.1 (B.2.2 (if k % 2 = 0 then k / 2 else (B.1 + 1) / 2 + k / 2))) := by
      unfold by_add
      rw [if_pos (by omega), by_get_at hq (by omega), ok.at2 hq]
    unfold pa_uns
    rw [ha]
    obtain ⟨h1, h2, h3⟩ := ih (k + 1) (t.1 + 1, t.2.1, upd t.2.2 t.1 (B.2.2 (if k % 2 = 0 then k / 2 else (B.1 + 1) / 2 + k / 2))) (by omega) (by show t.1 + 1 = k + 1; omega)
    refine ⟨h1, fun i hi => ?_, fun i hi1 hi2 => ?_⟩
    · rw [h2 i (by omega)]
      show upd t.2.2 t.1 _ i = _
      rw [ux_n (by omega)]
    · by_cases q : i = k
      · subst q
        rw [h2 i (by omega)]
        show upd t.2.2 t.1 _ i = _
        rw [← ht, ux_s]
      · exact h3 i (by omega) hi2
set_option maxRecDepth 10000 in
set_option maxHeartbeats 2000000 in
theorem by_ok_sum : ∀ (j k : Nat) (b : by_B), by_ok b → by_ok (pa_sum j k b)
  | 0, _, _, h => h
  | j + 1, _, _, h => by_ok_sum j _ _ (by_ok_chg _ _ h)
set_option maxRecDepth 10000 in
set_option maxHeartbeats 2000000 in
theorem by_ok_up1 (b2 : by_B) (pl v : Nat) : ∀ (j k : Nat) (b : by_B), by_ok b → by_ok (pa_up1 b2 pl v j k b)
  | 0, _, _, h => h
  | j + 1, _, _, h => by_ok_up1 b2 pl v j _ _ (by_ok_add _ h)
set_option maxRecDepth 10000 in
set_option maxHeartbeats 2000000 in
theorem by_ok_upE (b2 : by_B) (e w : Nat) : ∀ (n pl : Nat) (b : by_B), by_ok b → by_ok (pa_upE b2 e w n pl b).2
  | 0, _, _, h => h
  | n + 1, pl, b, h => by
    unfold pa_upE
    split
    · split
      · exact h
      · exact by_ok_upE b2 e w n _ _ (by_ok_up1 _ _ _ _ _ _ h)
    · exact h
set_option maxRecDepth 10000 in
set_option maxHeartbeats 2000000 in
theorem by_ok_uns (n : Nat) (B : by_B) : ∀ (j k : Nat) (t : by_B), by_ok t → by_ok (pa_uns n B j k t)
  | 0, _, _, h => h
  | j + 1, _, _, h => by_ok_uns n B j _ _ (by_ok_add _ h)
set_option maxRecDepth 10000 in
set_option maxHeartbeats 2000000 in
theorem e_unpack {g0 g : mo_G} {b : by_B} {x : rd_X} (h : RR g0 g x) (I : FI g0 b) {e w : Nat} (hp : x.2.2.2 ≤ e) (he : e ≤ b.1) (hw : w ≤ 384) (r s : by_B) : ∃ g', r_unpack (nI e) (nI w) g = some g' ∧ ((pa_upk 384 b x.2.2.2 e w s r).1 = -2 → FD g0 g' ∧ KN g g' ∧ g'.1 4 = g.1 4 ∧ g'.1 9 = 0 ∧ by_eq (pa_upk 384 b x.2.2.2 e w s r).2.2 (g'.2 9) ∧ (pa_upk 384 b x.2.2.2 e w s r).2.2.1 = w ∧ by_ok (pa_upk 384 b x.2.2.2 e w s r).2.2) ∧ (¬ (pa_upk 384 b x.2.2.2 e w s r).1 = -2 → BD g0 g' (rd_fl x (pa_upk 384 b x.2.2.2 e w s r).1)) := by
  have I1 : FI (upd g.1 6 0, g.2) b := I.fd (h.1.tr (.v (Or.inl (by omega))))
  have hl := I.2.2.1
  have u0 := un_id (g := (upd g.1 6 0, g.2)) (pl := x.2.2.2) (n := 0) h.2.2.2.1 rfl
  have m5 := e_u5 (K := fun y11 y12 g10 => j_unpack_173 y11 y12 g10) I1 h.2.2.1 he hw e x.2.2.2 2000 (0, 0, s.2.2) (g.2 10) (fun k hk => absurd hk (Nat.not_lt_zero k)) (by omega) hp (Nat.zero_le _) (by omega)
  rw [show mo_un (upd g.1 6 0, g.2) x.2.2.2 (0, 0, s.2.2).1 (g.2 10) = (upd g.1 6 0, g.2) from u0] at m5
  have hb0 : ∀ (v : Int32) (g1 : mo_G), FD g0 g1 → BD g0 (upd (upd g1.1 4 v) 9 1, g1.2) (rd_fl x v) := by
    intro v g1 hf
    refine ⟨hf.tr (FD.tr (g1 := (upd g1.1 4 v, g1.2)) (.v (Or.inr rfl)) (.v (Or.inl (by omega)))), rfl, ?_⟩
    show (1 : Int32) = if x.2.1 = 0 then 1 else 2
    rw [if_pos h.2.2.2.2]
  have F1 : ∀ pl n f, FD g0 (mo_un (upd g.1 6 0, g.2) pl n f) := fun pl n f => h.1.tr (FD.tr (FD.v (Or.inl (by omega))) FD.un)
  have K1 : ∀ pl n f, KN g (mo_un (upd g.1 6 0, g.2) pl n f) := fun pl n f => KN.tr (KN.v (by omega)) KN.un
  unfold r_unpack
  rcases m5 with ⟨q, q1, f', pl', n', q2⟩ | ⟨q1, f', q2, q3, q4⟩
  · obtain ⟨⟨o, bb⟩, hx⟩ : ∃ z, pa_upE b e w e x.2.2.2 (0, 0, s.2.2) = z := ⟨_, rfl⟩
    rw [hx] at q1
    obtain rfl : o = some q := q1
    have hup : pa_upk 384 b x.2.2.2 e w s r = (nI q, bb, r) := by unfold pa_upk; rw [hx]
    rw [q2, hup]
    refine ⟨_, rfl, fun z => ?_, fun _ => hb0 _ _ (F1 _ _ _)⟩
    exact absurd z (nI_ne2 (by have := pa_upE_q b e w e x.2.2.2 (0, 0, s.2.2) q bb hx; omega))
  · have okE := by_ok_upE b e w e x.2.2.2 (0, 0, s.2.2) (by_ok_0 _ _)
    obtain ⟨⟨o, bb⟩, hx⟩ : ∃ z, pa_upE b e w e x.2.2.2 (0, 0, s.2.2) = z := ⟨_, rfl⟩
    rw [hx] at q1 q2 q3 q4 okE
    obtain rfl : o = none := q1
    have hup : pa_upk 384 b x.2.2.2 e w s r = if bb.1 < w then (nI e, bb, r) else ((-2 : Int32), pa_sum (bb.1 - 1) 1 bb, pa_us 384 bb r) := by unfold pa_upk; rw [hx]
    rw [q4, hup]
    unfold j_unpack_173
    have q3' : bb.1 ≤ w := q3
    have z9 : (mo_un (upd g.1 6 0, g.2) e bb.1 f').1 9 = 0 := h.2.2.1
    rw [if_pos z9, show (mo_un (upd g.1 6 0, g.2) e bb.1 f').1 6 = nI bb.1 from rfl]
    by_cases z : bb.1 < w
    · rw [if_neg (nI_ge z (by omega))]
      have e1 : (if bb.1 < w then (nI e, bb, r) else ((-2 : Int32), pa_sum (bb.1 - 1) 1 bb, pa_us 384 bb r)) = (nI e, bb, r) := if_pos z
      have wr : r_wrong (nI e) 1 (mo_un (upd g.1 6 0, g.2) e bb.1 f') = some (upd (upd (mo_un (upd g.1 6 0, g.2) e bb.1 f').1 4 (nI e)) 9 1, (mo_un (upd g.1 6 0, g.2) e bb.1 f').2) := by
        unfold r_wrong
        rw [if_pos (by rw [z9]; decide)]
      rw [e1, wr, Option.bind_some]
      have B := hb0 (nI e) _ (F1 e bb.1 f')
      unfold j_unpack_194
      rw [if_neg B.pos.1]
      exact ⟨_, rfl, fun w => absurd w (nI_ne2 (by omega)), fun _ => B⟩
    · rw [if_pos (nI_le (by omega) (by omega))]
      have e1 : (if bb.1 < w then (nI e, bb, r) else ((-2 : Int32), pa_sum (bb.1 - 1) 1 bb, pa_us 384 bb r)) = ((-2 : Int32), pa_sum (bb.1 - 1) 1 bb, pa_us 384 bb r) := if_neg z
      rw [e1]
      unfold j_unpack_194
      rw [if_pos (by rw [z9]; decide)]
      obtain ⟨f2, s1, s2⟩ := e_u204 (K := fun g16 => l_unpack_259 (fun g19 => some g19) 2000 (((((g16.1 6) + 1)) / 2)) 0 g16) (g := mo_un (upd g.1 6 0, g.2) e bb.1 f') (bb.1 - 1) 1 2000 bb f' q2 (by omega) (by omega) (by omega) (by omega) (by omega) rfl
      rw [show ((mo_un (upd g.1 6 0, g.2) e bb.1 f').1, mo_uA (mo_un (upd g.1 6 0, g.2) e bb.1 f').2 10 f') = mo_un (upd g.1 6 0, g.2) e bb.1 f' by unfold mo_un; show (_, mo_uA (mo_uA g.2 10 f') 10 f') = _; rw [uA]] at s2
      rw [show ((mo_un (upd g.1 6 0, g.2) e bb.1 f').1, mo_uA (mo_un (upd g.1 6 0, g.2) e bb.1 f').2 10 f2) = mo_un (upd g.1 6 0, g.2) e bb.1 f2 by unfold mo_un; show (_, mo_uA (mo_uA g.2 10 f') 10 f2) = _; rw [uA]] at s2
      replace s2 : l_unpack_204 (fun g16 => l_unpack_259 (fun g19 => some g19) 2000 (((((g16.1 6) + 1)) / 2)) 0 g16) 2000 1 (mo_un (upd g.1 6 0, g.2) e bb.1 f') = _ := s2
      rw [s2, show (mo_un (upd g.1 6 0, g.2) e bb.1 f2).1 6 = nI bb.1 from rfl, nI_1, show (2 : Int32) = nI 2 from rfl, pk_div (by omega) (by omega) (by omega)]
      obtain ⟨f3, t1, t2, t3⟩ := e_u259 (K := fun g19 => some g19) (g := mo_un (upd g.1 6 0, g.2) e bb.1 f2) (n := bb.1) rfl (by omega) bb.1 0 2000 ((mo_un (upd g.1 6 0, g.2) e bb.1 f2).2 9) (by omega) (by omega)
      have e3 : ((mo_un (upd g.1 6 0, g.2) e bb.1 f2).1, mo_uA (mo_un (upd g.1 6 0, g.2) e bb.1 f2).2 9 ((mo_un (upd g.1 6 0, g.2) e bb.1 f2).2 9)) = mo_un (upd g.1 6 0, g.2) e bb.1 f2 := by
        refine Prod.ext rfl ?_
        funext q
        show mo_uA (mo_un (upd g.1 6 0, g.2) e bb.1 f2).2 9 ((mo_un (upd g.1 6 0, g.2) e bb.1 f2).2 9) q = (mo_un (upd g.1 6 0, g.2) e bb.1 f2).2 q
        by_cases y : q = 9
        · rw [y, uA_s]
        · exact uA_n y
      rw [e3, nI_0] at t3
      refine ⟨_, t3, fun _ => ?_, fun w => absurd rfl w⟩
      have okS := by_ok_sum (bb.1 - 1) 1 bb okE
      have lS : (pa_sum (bb.1 - 1) 1 bb).1 = bb.1 := pa_sum_le _ _ _
      obtain ⟨u1, _, u3⟩ := uns_at 384 (pa_sum (bb.1 - 1) 1 bb) okS (by omega) (by omega) (by omega) bb.1 0 (0, 0, r.2.2) (by omega) rfl
      refine ⟨(F1 e bb.1 f2).tr (.a (by omega)), KN.tr (K1 e bb.1 f2) ⟨fun _ _ => rfl, fun j h1 h2 => uA_n (by omega)⟩, rfl, h.2.2.1, ?_, ?_, ?_⟩
      · intro i hi
        have hi2 : i < bb.1 := by
          have : i < (pa_us 384 bb r).1 := hi
          unfold pa_us at this
          rw [u1] at this
          omega
        show f3 i = (pa_us 384 bb r).2.2 i
        unfold pa_us
        rw [u3 i (by omega) (by omega), lS]
        have um : upos bb.1 (if i % 2 = 0 then i / 2 else (bb.1 + 1) / 2 + i / 2) = i := by
          unfold upos
          split <;> split <;> omega
        have hm : (if i % 2 = 0 then i / 2 else (bb.1 + 1) / 2 + i / 2) < bb.1 := by split <;> omega
        have := t2 _ (by omega) hm
        rw [um] at this
        rw [this]
        show f2 _ = _
        exact s1 _ (by rw [lS]; exact hm)
      · show (pa_us 384 bb r).1 = w
        unfold pa_us
        rw [u1, lS]
        omega
      · show by_ok (pa_us 384 bb r)
        unfold pa_us
        exact by_ok_uns _ _ _ _ _ (by_ok_0 _ _)
