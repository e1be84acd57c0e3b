set_option maxRecDepth 10000 in
set_option maxHeartbeats 2000000 in
theorem un_id {g : mo_G} {pl n : Nat} (h8 : g.1 8 = nI pl) (h6 : g.1 6 = nI n) : mo_un g pl n (g.2 10) = g := by
  unfold mo_un
  refine Prod.ext ?_ ?_
  · funext q
    show upd (upd g.1 6 (nI n)) 8 (nI pl) q = g.1 q
    by_cases z : q = 8
    · rw [z, ux_s, h8]
    · rw [ux_n z]
      by_cases z1 : q = 6
      · rw [z1, ux_s, h6]
      · rw [ux_n z1]
  · funext q
    show mo_uA g.2 10 (g.2 10) q = g.2 q
    by_cases z : q = 10
    · rw [z, uA_s]
    · exact uA_n z
set_option maxRecDepth 10000 in
set_option maxHeartbeats 2000000 in
theorem un_un {g : mo_G} {pl n pl' : Nat} {f : Nat → Int32} : (upd (mo_un g pl n f).1 8 (nI pl'), (mo_un g pl n f).2) = mo_un g pl' n f := by
  unfold mo_un
  show (upd (upd (upd g.1 6 (nI n)) 8 (nI pl)) 8 (nI pl'), _) = _
  rw [ux]
set_option maxRecDepth 10000 in
set_option maxHeartbeats 2000000 in
theorem FD.un {g : mo_G} {pl n : Nat} {f : Nat → Int32} : FD g (mo_un g pl n f) := ⟨fun i h1 h2 => by show upd (upd g.1 6 _) 8 _ i = _; rw [ux_n (by omega), ux_n (by omega)], fun j hj => uA_n (by omega)⟩
set_option maxRecDepth 10000 in
set_option maxHeartbeats 2000000 in
theorem KN.un {g : mo_G} {pl n : Nat} {f : Nat → Int32} : KN g (mo_un g pl n f) := ⟨fun i hi => by show upd (upd g.1 6 _) 8 _ i = _; rw [ux_n (by omega), ux_n (by omega)], fun j h1 h2 => uA_n (by omega)⟩
set_option maxRecDepth 10000 in
set_option maxHeartbeats 2000000 in
theorem e_u5 {K : Int32 → Int32 → mo_G → Option mo_G} {g : mo_G} {b2 : by_B} (I : FI g b2) (h9 : g.1 9 = 0) {e w : Nat} (he : e ≤ b2.1) (hw : w ≤ 384) : ∀ (n pl N : Nat) (b : by_B) (f : Nat → Int32), by_eq b f → e ≤ n + pl → pl ≤ e → b.1 ≤ w → n < N → (∃ q, (pa_upE b2 e w n pl b).1 = some q ∧ ∃ f' pl' n', l_unpack_5 K N (nI e) (nI w) (mo_un g pl b.1 f) = some (upd (upd (mo_un g pl' n' f').1 4 (nI q)) 9 1, (mo_un g pl' n' f').2)) ∨ ((pa_upE b2 e w n pl b).1 = none ∧ ∃ f', by_eq (pa_upE b2 e w n pl b).2 f' ∧ (pa_upE b2 e w n pl b).2.1 ≤ w ∧ l_unpack_5 K N (nI e) (nI w) (mo_un g pl b.1 f) = K (nI e) (nI w) (mo_un g e (pa_upE b2 e w n pl b).2.1 f')) := by
  have hl := I.2.2.1
  intro n
  induction n with
  | zero =>
    intro pl N b f hf hn hp hb hN
    obtain ⟨N, rfl⟩ : ∃ m, N = m + 1 := ⟨N - 1, by omega⟩
    right
    obtain rfl : pl = e := by omega
    refine ⟨rfl, f, hf, hb, ?_⟩
    rw [l_unpack_5, show (mo_un g pl b.1 f).1 8 = nI pl from rfl, if_pos (nI_le (by omega) (by omega))]
    rfl
  | succ n ih =>
    intro pl N b f hf hn hp hb hN
    obtain ⟨N, rfl⟩ : ∃ m, N = m + 1 := ⟨N - 1, by omega⟩
    rw [l_unpack_5, show (mo_un g pl b.1 f).1 8 = nI pl from rfl]
    unfold pa_upE
    by_cases q : pl < e
    · obtain ⟨a1, a2, a3⟩ := I.at (k := pl) (by omega)
      obtain ⟨v, hv⟩ : ∃ v, v = by_h b2 pl := ⟨_, rfl⟩
      rw [if_pos q, if_neg (nI_ge q (by omega)), if_pos (show (mo_un g pl b.1 f).1 9 = 0 from h9), og_t (vp_in_nI (by omega) (by decide)), nI_clamp (by omega), show (mo_un g pl b.1 f).2 4 = g.2 4 from rfl, a1, ← hv]
      rw [← hv] at a2
      have e1 : (if (128 : Int32) ≤ nI v then (j_unpack_48 K (fun x1 x2 g => l_unpack_5 K N x1 x2 g) (nI e) (nI w) (nI v) (256 - nI v) (mo_un g pl b.1 f)) else (j_unpack_48 K (fun x1 x2 g => l_unpack_5 K N x1 x2 g) (nI e) (nI w) (nI v) (nI v + 1) (mo_un g pl b.1 f))) = j_unpack_65 K (fun x1 x2 g => l_unpack_5 K N x1 x2 g) (nI e) (nI w) (nI v) (nI (pa_mk v)) (nI (pa_tk v)) (mo_un g pl b.1 f) := by
        unfold j_unpack_48 pa_tk pa_mk
        by_cases z : v < 128
        · rw [if_neg (show ¬ (128 : Int32) ≤ nI v from nI_ge (b := 128) z (by omega)), if_neg (show ¬ (128 : Int32) ≤ nI v from nI_ge (b := 128) z (by omega)), if_pos z, if_pos z, nI_1]
          rfl
        · have z2 : (128 : Int32) ≤ nI v := nI_le (a := 128) (by omega) (by omega)
          rw [if_pos z2, if_pos z2, if_neg z, if_neg z, show (256 : Int32) = nI 256 from rfl, pk_sub (by omega), nI_1, Nat.add_comm 1]
      rw [e1]
      have tk := pa_tk_in a2
      have mk := pa_mk_in a2
      unfold j_unpack_65
      rw [show (mo_un g pl b.1 f).1 8 = nI pl from rfl, show (mo_un g pl b.1 f).1 6 = nI b.1 from rfl, nI_add, nI_add]
      have wr : r_wrong (nI pl) 1 (mo_un g pl b.1 f) = some (upd (upd (mo_un g pl b.1 f).1 4 (nI pl)) 9 1, (mo_un g pl b.1 f).2) := by
        unfold r_wrong
        rw [if_pos (show (mo_un g pl b.1 f).1 9 ≤ 0 by rw [show (mo_un g pl b.1 f).1 9 = g.1 9 from rfl, h9]; decide)]
      by_cases z1 : e < pl + pa_tk v
      · rw [if_pos (nI_lt z1 (by omega)), if_pos (Or.inl z1), wr, Option.bind_some]
        left
        exact ⟨pl, rfl, f, pl, b.1, rfl⟩
      · rw [if_neg (nI_nlt (by omega) (by omega))]
        by_cases z2 : w < b.1 + pa_mk v
        · rw [if_neg (nI_ge z2 (by omega)), if_pos (Or.inr z2), wr, Option.bind_some]
          left
          exact ⟨pl, rfl, f, pl, b.1, rfl⟩
        · rw [if_pos (nI_le (by omega) (by omega)), if_neg (fun h => by rcases h with h | h <;> omega)]
          obtain ⟨f1, h1, h2, h3⟩ := e_u102 (K := fun y6 y7 y8 g5 => (fun x1 x2 g => l_unpack_5 K N x1 x2 g) y6 y7 (upd g5.1 8 (((g5.1 8) + y8)), g5.2)) I (pl := pl) (v := v) (mk := pa_mk v) (x1 := nI e) (x2 := nI w) (x5 := nI (pa_tk v)) a2 (by
            unfold pa_tk at z1
            split
            · rename_i z
              rw [if_pos z] at z1
              omega
            · rename_i z
              rw [if_neg z] at z1
              omega) mk.2 (pa_mk v) 0 2000 b f hf (by omega) (by omega) (by omega)
          have h4 := ih (pl + pa_tk v) N _ f1 h1 (by omega) (by omega) (by omega) (by omega)
          rw [h2] at h4
          have e5 : l_unpack_102 (fun y6 y7 y8 g5 => (fun x1 x2 g => l_unpack_5 K N x1 x2 g) y6 y7 (upd g5.1 8 (((g5.1 8) + y8)), g5.2)) 2000 (nI e) (nI w) (nI v) (nI (pa_mk v)) (nI (pa_tk v)) 0 (mo_un g pl b.1 f) = l_unpack_5 K N (nI e) (nI w) (mo_un g (pl + pa_tk v) (b.1 + pa_mk v) f1) := by
            rw [nI_0] at h3
            refine h3.trans ?_
            show l_unpack_5 K N _ _ (upd (mo_un g pl (b.1 + pa_mk v) f1).1 8 (nI pl + nI (pa_tk v)), _) = _
            rw [nI_add, un_un]
          rw [e5]
          exact h4
    · rw [if_pos (nI_le (by omega) (by omega)), if_neg q]
      right
      obtain rfl : pl = e := by omega
      exact ⟨rfl, f, hf, hb, rfl⟩
set_option maxRecDepth 10000 in
set_option maxHeartbeats 2000000 in
theorem sum_at : ∀ (j k : Nat) (b : by_B) (f : Nat → Int32), by_eq b f → 0 < k → k + j = b.1 → b.1 ≤ 384 → True := fun _ _ _ _ _ _ _ _ => trivial
set_option maxRecDepth 10000 in
set_option maxHeartbeats 2000000 in
theorem e_u204 {K : mo_G → Option mo_G} {g : mo_G} : ∀ (j k N : Nat) (b : by_B) (f : Nat → Int32), by_eq b f → 0 < k → k + j = b.1 ∨ j = 0 ∧ b.1 ≤ k → k ≤ 400 → b.1 ≤ 384 → j < N → g.1 6 = nI b.1 → ∃ f', by_eq (pa_sum j k b) f' ∧ l_unpack_204 K N (nI k) (g.1, mo_uA g.2 10 f) = K (g.1, mo_uA g.2 10 f') := by
  intro j
  induction j with
  | zero =>
    intro k N b f hf hk hj hk4 hb hN h6
    obtain ⟨N, rfl⟩ : ∃ m, N = m + 1 := ⟨N - 1, by omega⟩
    refine ⟨f, hf, ?_⟩
    rw [l_unpack_204, show (g.1, mo_uA g.2 10 f).1 6 = nI b.1 from h6, if_pos (nI_le (by omega) (by omega))]
  | succ j ih =>
    intro k N b f hf hk hj hk4 hb hN h6
    obtain ⟨N, rfl⟩ : ∃ m, N = m + 1 := ⟨N - 1, by omega⟩
    have hkb : k < b.1 := by omega
    have hc : by_chg b (nI k) (by_get b (nI k) + by_get b (nI (k - 1)) - 128) = (b.1, b.2.1, upd b.2.2 k ((b.2.2 k + b.2.2 (k - 1) - 128) &&& 255)) := by
      unfold by_chg
      rw [if_neg (nI_pos (by omega)), if_pos (nI_lt hkb (by omega)), nI_clamp (by omega), by_get_at hkb (by omega), by_get_at (by omega) (by omega)]
    unfold pa_sum
    rw [hc]
    obtain ⟨f', h1, h2⟩ := ih (k + 1) N (b.1, b.2.1, upd b.2.2 k ((b.2.2 k + b.2.2 (k - 1) - 128) &&& 255)) (upd f k ((f k + f (k - 1) - 128) &&& 255)) (fun i hi => by
      show upd f k _ i = upd b.2.2 k _ i
      by_cases q : i = k
      · rw [q, ux_s, ux_s, hf k hkb, hf (k - 1) (by omega)]
      · rw [ux_n q, ux_n q]
        exact hf i hi) (by omega) (by show k + 1 + j = b.1 ∨ _; omega) (by omega) hb (by omega) h6
    refine ⟨f', h1, ?_⟩
    rw [l_unpack_204, show (g.1, mo_uA g.2 10 f).1 6 = nI b.1 from h6, if_neg (nI_ge hkb (by omega)), og_t (vp_in_nI (by omega) (by decide)), show (1 : Int32) = nI 1 from rfl, pk_sub (by omega), og_t (vp_in_nI (by omega) (by decide)), og_t (vp_in_nI (by omega) (by decide)), nI_clamp (by omega), nI_clamp (by omega), nI_add]
    show l_unpack_204 K N (nI (k + 1)) (g.1, mo_uA (mo_uA g.2 10 f) 10 (upd f k ((f k + f (k - 1) - 128) &&& 255))) = _
    rw [uA]
    exact h2
