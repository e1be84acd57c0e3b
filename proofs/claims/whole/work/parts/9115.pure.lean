set_option maxRecDepth 10000 in
set_option maxHeartbeats 2000000 in
theorem bF {q : Bool} (h : ¬ q = true) : q = false := by cases q; rfl; exact absurd rfl h
set_option maxRecDepth 10000 in
set_option maxHeartbeats 2000000 in
theorem e_h99 {K : mo_G → Option mo_G} {g0 : mo_G} {b : by_B} (I : FI g0 b) {nn : Nat} (hn3 : nn ≤ 3) {sc : Int32} : ∀ (j N : Nat) (g : mo_G) (x : rd_X) (p : pi_P), RR g0 g x → x.2.2.2 ≤ b.1 → RN g p → GP p → GL p → p.2.2.1 + j = nn → g.1 12 = nI nn → g.1 13 = sc → j < N → ∃ g', l_readHead_99 K N (nI p.2.2.1) g = K g' ∧ ((rd_chL b j x p).1 = true → RR g0 g' (rd_chL b j x p).2.1 ∧ RN g' (rd_chL b j x p).2.2 ∧ GP (rd_chL b j x p).2.2 ∧ GL (rd_chL b j x p).2.2 ∧ (rd_chL b j x p).2.2.2.2.1 = nn ∧ g'.1 12 = nI nn ∧ g'.1 13 = sc ∧ (rd_chL b j x p).2.1.2.2.2 ≤ b.1) ∧ ((rd_chL b j x p).1 = false → BD g0 g' (rd_chL b j x p).2.1) := by
  intro j
  induction j with
  | zero =>
    intro N g x p h hp R G L hc h12 h13 hN
    obtain ⟨N, rfl⟩ : ∃ m, N = m + 1 := ⟨N - 1, by omega⟩
    rw [l_readHead_99, h12, if_pos (nI_le (by omega) (by omega))]
    refine ⟨g, rfl, fun _ => ⟨h, R, G, L, ?_, h12, h13, hp⟩, fun z => Bool.noConfusion z⟩
    show p.2.2.1 = nn
    omega
  | succ j ih =>
    intro N g x p h hp R G L hc h12 h13 hN
    obtain ⟨N, rfl⟩ : ∃ m, N = m + 1 := ⟨N - 1, by omega⟩
    have h3 : p.2.2.1 < 3 := by omega
    rw [l_readHead_99, h12, if_neg (nI_ge (by omega) (by omega)), if_pos h.2.2.1]
    have e0 : (if nI p.2.2.1 = 0 then (j_readHead_139 K (fun x1 g => l_readHead_99 K N x1 g) (nI p.2.2.1) 97 (nI p.2.2.1) g) else (og (vp_in ((nI p.2.2.1 - 1) : Int32) 3) (j_readHead_139 K (fun x1 g => l_readHead_99 K N x1 g) (nI p.2.2.1) (((((g.2 5) ((nI p.2.2.1 - 1) : Int32).toNatClampNeg)) + 1)) (nI p.2.2.1) g))) = j_readHead_139 K (fun x1 g => l_readHead_99 K N x1 g) (nI p.2.2.1) (pi_lst p) (nI p.2.2.1) g := by
      unfold pi_lst
      by_cases q : p.2.2.1 = 0
      · rw [if_pos (show nI p.2.2.1 = 0 by rw [q]; rfl), if_pos q]
      · rw [if_neg (nI_ne0 (by omega) (by omega)), if_neg q, show (1 : Int32) = nI 1 from rfl, pk_sub (by omega), og_t (vp_in_nI (by omega) (by decide)), nI_clamp (by omega), (R.2.2.1 (p.2.2.1 - 1) (by omega)).1]
    rw [e0]
    obtain ⟨g1, a1, _, a2, a3⟩ := e_h139 (K := K) (bk := fun x1 g => l_readHead_99 K N x1 g) h I hp R G L h3
    rw [a1]
    unfold rd_chL
    by_cases q : (rd_c3 b (pi_lst p) x).1 = true
    · rw [if_pos q]
      obtain ⟨b1, b2, b3, b4, b5, b6, b7, b8⟩ := a2 q
      obtain ⟨g2, c1, c2, c3⟩ := ih N g1 (rd_c3 b (pi_lst p) x).2 (rd_chP b x p) b1 b8 b4 b5 b6 (by omega) (b2.trans h12) (b3.trans h13) (by omega)
      rw [b7] at c1
      exact ⟨g2, c1, c2, c3⟩
    · rw [if_neg q]
      have B := a3 (bF q)
      obtain ⟨N, rfl⟩ : ∃ m, N = m + 1 := ⟨N - 1, by omega⟩
      refine ⟨g1, ?_, fun z => Bool.noConfusion z, fun _ => B⟩
      rw [l_readHead_99, if_neg B.pos.2]
      split <;> rfl
def rd_HC (b : by_B) (p : pi_P) (x : rd_X) : Bool × rd_X × pi_P := if (rd_hd b p x).1 = true then rd_chs b (rd_hd b p x).2.2 (rd_hd b p x).2.1 else rd_hd b p x
set_option maxRecDepth 10000 in
set_option maxHeartbeats 2000000 in
theorem mg_nx (b : by_B) (x : rd_X) : rd_mg b 4 0 x = (if (rd_nx b 118 118 x).1 = true then (if (rd_nx b 47 47 (rd_nx b 118 118 x).2).1 = true then (if (rd_nx b 49 49 (rd_nx b 47 47 (rd_nx b 118 118 x).2).2).1 = true then (if (rd_nx b 1 1 (rd_nx b 49 49 (rd_nx b 47 47 (rd_nx b 118 118 x).2).2).2).1 = true then (true, (rd_nx b 1 1 (rd_nx b 49 49 (rd_nx b 47 47 (rd_nx b 118 118 x).2).2).2).2) else (false, (rd_nx b 1 1 (rd_nx b 49 49 (rd_nx b 47 47 (rd_nx b 118 118 x).2).2).2).2)) else (false, (rd_nx b 49 49 (rd_nx b 47 47 (rd_nx b 118 118 x).2).2).2)) else (false, (rd_nx b 47 47 (rd_nx b 118 118 x).2).2)) else (false, (rd_nx b 118 118 x).2)) := rfl
set_option maxRecDepth 10000 in
set_option maxHeartbeats 2000000 in
theorem e_head {g0 g : mo_G} {b : by_B} {x : rd_X} {p : pi_P} (h : RR g0 g x) (I : FI g0 b) (h0 : x.2.2.2 = 0) (h8 : ∀ k, k < 192 → g.2 8 k = 0) : ∃ g', hd1 g = some g' ∧ ((rd_HC b p x).1 = true → RR g0 g' (rd_HC b p x).2.1 ∧ RN g' (rd_HC b p x).2.2 ∧ GP (rd_HC b p x).2.2 ∧ GL (rd_HC b p x).2.2 ∧ g'.1 12 = nI (rd_HC b p x).2.2.2.2.1 ∧ g'.1 13 = nI (rd_HC b p x).2.1.2.2.1 ∧ (rd_HC b p x).2.1.2.2.1 < 4 ∧ 1 ≤ (rd_HC b p x).2.2.2.2.1 ∧ (rd_HC b p x).2.1.2.2.2 ≤ b.1) ∧ ((rd_HC b p x).1 = false → BD g0 g' (rd_HC b p x).2.1) := by
  have hl := I.2.2.1
  have J := I.2.2.2
  have hF : ∀ {y : rd_X} {g1 : mo_G}, BD g0 g1 y → ∀ {o : Option mo_G}, (∃ g', o = some g' ∧ BD g0 g' y) → rd_HC b p x = (false, y, p) → ∃ g', o = some g' ∧ ((rd_HC b p x).1 = true → RR g0 g' (rd_HC b p x).2.1 ∧ RN g' (rd_HC b p x).2.2 ∧ GP (rd_HC b p x).2.2 ∧ GL (rd_HC b p x).2.2 ∧ g'.1 12 = nI (rd_HC b p x).2.2.2.2.1 ∧ g'.1 13 = nI (rd_HC b p x).2.1.2.2.1 ∧ (rd_HC b p x).2.1.2.2.1 < 4 ∧ 1 ≤ (rd_HC b p x).2.2.2.2.1 ∧ (rd_HC b p x).2.1.2.2.2 ≤ b.1) ∧ ((rd_HC b p x).1 = false → BD g0 g' (rd_HC b p x).2.1) := by
    intro y g1 _ o hq e
    obtain ⟨g', h1, h2⟩ := hq
    refine ⟨g', h1, ?_, ?_⟩
    · rw [e]; intro z; exact Bool.noConfusion z
    · rw [e]; intro _; exact h2
  have mg := mg_nx b x
  obtain ⟨v1, g1, a1, a2, a3⟩ := e_next h I (by omega) 118 118
  unfold hd1
  rw [a1, Option.bind_some]
  by_cases q1 : ¬ (rd_nx b 118 118 x).1 = true
  · have B := a3 (bF q1)
    refine hF B B.h2 ?_
    rw [if_neg q1] at mg
    unfold rd_HC rd_hd
    rw [mg]
    rfl
  replace q1 := Decidable.not_not.mp q1
  obtain ⟨b1, b2, b3, b4⟩ := a2 q1
  rw [if_pos q1] at mg
  rw [(rd_nx_g q1).1] at b3 mg
  obtain ⟨v2, g2, c1, c2, c3⟩ := e_next b3 I (by show x.2.2.2 + 1 ≤ b.1; omega) 47 47
  unfold hd2
  rw [c1, Option.bind_some]
  by_cases q2 : ¬ (rd_nx b 47 47 (rd_go x 1)).1 = true
  · have B := c3 (bF q2)
    refine hF B B.h3 ?_
    rw [if_neg q2] at mg
    unfold rd_HC rd_hd
    rw [mg]
    rfl
  replace q2 := Decidable.not_not.mp q2
  obtain ⟨d1, d2, d3, d4⟩ := c2 q2
  rw [if_pos q2] at mg
  rw [(rd_nx_g q2).1] at d3 mg
  have d4' : x.2.2.2 + 1 < b.1 := d4
  obtain ⟨v3, g3, e1, e2, e3⟩ := e_next d3 I (by show x.2.2.2 + 1 + 1 ≤ b.1; omega) 49 49
  unfold hd3
  rw [e1, Option.bind_some]
  by_cases q3 : ¬ (rd_nx b 49 49 (rd_go (rd_go x 1) 1)).1 = true
  · have B := e3 (bF q3)
    refine hF B B.h4 ?_
    rw [if_neg q3] at mg
    unfold rd_HC rd_hd
    rw [mg]
    rfl
  replace q3 := Decidable.not_not.mp q3
  obtain ⟨f1, f2, f3, f4⟩ := e2 q3
  rw [if_pos q3] at mg
  rw [(rd_nx_g q3).1] at f3 mg
  have f4' : x.2.2.2 + 1 + 1 < b.1 := f4
  obtain ⟨v4, g4, i1, i2, i3⟩ := e_next f3 I (by show x.2.2.2 + 1 + 1 + 1 ≤ b.1; omega) 1 1
  unfold hd4
  rw [i1, Option.bind_some]
  by_cases q4 : ¬ (rd_nx b 1 1 (rd_go (rd_go (rd_go x 1) 1) 1)).1 = true
  · have B := i3 (bF q4)
    refine hF B B.h5 ?_
    rw [if_neg q4] at mg
    unfold rd_HC rd_hd
    rw [mg]
    rfl
  replace q4 := Decidable.not_not.mp q4
  obtain ⟨j1, j2, j3, j4⟩ := i2 q4
  rw [if_pos q4] at mg
  rw [(rd_nx_g q4).1] at j3 mg
  have j4' : x.2.2.2 + 1 + 1 + 1 < b.1 := j4
  have hd0 : rd_hd b p x = (if (rd_h5 b (rd_go (rd_go (rd_go (rd_go x 1) 1) 1) 1)).1 = true then (true, rd_sc (rd_h5 b (rd_go (rd_go (rd_go (rd_go x 1) 1) 1) 1)).2 (by_h b ((rd_h5 b (rd_go (rd_go (rd_go (rd_go x 1) 1) 1) 1)).2.2.2.2 - 1)), pi_new p (by_h b ((rd_h5 b (rd_go (rd_go (rd_go (rd_go x 1) 1) 1) 1)).2.2.2.2 - 3)) (by_h b ((rd_h5 b (rd_go (rd_go (rd_go (rd_go x 1) 1) 1) 1)).2.2.2.2 - 2))) else (false, (rd_h5 b (rd_go (rd_go (rd_go (rd_go x 1) 1) 1) 1)).2, p)) := by
    unfold rd_hd
    rw [mg, if_pos rfl]
  obtain ⟨y, hy⟩ : ∃ y, y = rd_go (rd_go (rd_go (rd_go x 1) 1) 1) 1 := ⟨_, rfl⟩
  have hyp : y.2.2.2 = 4 := by rw [hy]; show x.2.2.2 + 1 + 1 + 1 + 1 = 4; omega
  rw [← hy] at hd0 j3
  have hb4 : 4 ≤ b.1 := by omega
  have ks : ∀ k, k < 192 → g4.2 8 k = 0 := by rw [j2, f2, d2, b2]; exact h8
  clear mg a1 a2 a3 c1 c2 c3 e1 e2 e3 i1 i2 i3 j2 f2 d2 b2 b3 d3 f3 q1 q2 q3 q4 h8 h
  have h5 : rd_h5 b y = (if (rd_kn b 2 2 y).1 = true then (if (rd_nx b 1 8 (rd_kn b 2 2 y).2).1 = true then (if (rd_nx b 1 8 (rd_nx b 1 8 (rd_kn b 2 2 y).2).2).1 = true then rd_kn b 0 3 (rd_nx b 1 8 (rd_nx b 1 8 (rd_kn b 2 2 y).2).2).2 else (false, (rd_nx b 1 8 (rd_nx b 1 8 (rd_kn b 2 2 y).2).2).2)) else (false, (rd_nx b 1 8 (rd_kn b 2 2 y).2).2)) else (false, (rd_kn b 2 2 y).2)) := rfl
  have hF5 : ∀ {z : rd_X}, rd_h5 b y = (false, z) → rd_HC b p x = (false, z, p) := by
    intro z e
    unfold rd_HC
    rw [hd0, e]
    rfl
  have knG : ∀ {lo hi : Int32} {w : rd_X}, (rd_kn b lo hi w).1 = true → (rd_kn b lo hi w).2 = rd_un (rd_go w 1) 0 := by
    intro lo hi w z
    have z2 : (rd_nx b lo hi w).1 = true := z
    unfold rd_kn
    rw [(rd_nx_g z2).1, z2, if_neg (fun w => Bool.noConfusion w.2)]
  obtain ⟨v5, g5, k1, k2, k3⟩ := e_nextK j3 I (by omega) 2 2
  unfold hd5
  rw [k1, Option.bind_some]
  by_cases q5 : ¬ (rd_kn b 2 2 y).1 = true
  · have B := k3 (bF q5)
    rw [if_neg q5] at h5
    exact hF B B.h6 (hF5 h5)
  replace q5 := Decidable.not_not.mp q5
  obtain ⟨l1, l2, l3, l4⟩ := k2 q5
  rw [if_pos q5] at h5
  rw [knG q5] at l3 h5
  obtain ⟨y1, hy1⟩ : ∃ y1, y1 = rd_un (rd_go y 1) 0 := ⟨_, rfl⟩
  have hyp1 : y1.2.2.2 = 5 := by rw [hy1]; show y.2.2.2 + 1 = 5; omega
  rw [← hy1] at l3 h5
  obtain ⟨v6, g6, m1, m2, m3⟩ := e_next l3 I (by omega) 1 8
  unfold hd6
  rw [m1, Option.bind_some]
  by_cases q6 : ¬ (rd_nx b 1 8 y1).1 = true
  · have B := (m3 (bF q6)).v (k := 10) (y := v6) (by omega)
    rw [if_neg q6] at h5
    exact hF B B.h7 (hF5 h5)
  replace q6 := Decidable.not_not.mp q6
  obtain ⟨n1, n2, n3, n4⟩ := m2 q6
  rw [if_pos q6] at h5
  rw [(rd_nx_g q6).1] at n3 h5
  obtain ⟨v7, g7, o1, o2, o3⟩ := e_next (n3.v (k := 10) (y := v6) (by omega)) I (by show y1.2.2.2 + 1 ≤ b.1; omega) 1 8
  unfold hd7
  rw [o1, Option.bind_some]
  by_cases q7 : ¬ (rd_nx b 1 8 (rd_go y1 1)).1 = true
  · have B := (o3 (bF q7)).v (k := 11) (y := v7) (by omega)
    rw [if_neg q7] at h5
    exact hF B B.h8 (hF5 h5)
  replace q7 := Decidable.not_not.mp q7
  obtain ⟨p1, p2, p3, p4⟩ := o2 q7
  rw [if_pos q7] at h5
  rw [(rd_nx_g q7).1] at p3 h5
  have p4' : y1.2.2.2 + 1 < b.1 := p4
  obtain ⟨v8, g8', r1, r2, r3⟩ := e_nextK (p3.v (k := 11) (y := v7) (by omega)) I (by show y1.2.2.2 + 1 + 1 ≤ b.1; omega) 0 3
  unfold hd8
  rw [r1, Option.bind_some]
  by_cases q8 : ¬ (rd_kn b 0 3 (rd_go (rd_go y1 1) 1)).1 = true
  · have B := (r3 (bF q8)).v (k := 13) (y := v8) (by omega)
    have e5 : rd_h5 b y = (false, (rd_kn b 0 3 (rd_go (rd_go y1 1) 1)).2) := by
      rw [h5]
      exact Prod.ext (bF q8) rfl
    exact hF B B.h9 (hF5 e5)
  replace q8 := Decidable.not_not.mp q8
  obtain ⟨s1, s2, s3, s4⟩ := r2 q8
  rw [knG q8] at s3
  have s4' : y1.2.2.2 + 1 + 1 < b.1 := s4
  obtain ⟨y2, hy2⟩ : ∃ y2, y2 = rd_un (rd_go (rd_go (rd_go y1 1) 1) 1) 0 := ⟨_, rfl⟩
  have hyp2 : y2.2.2.2 = 8 := by rw [hy2]; show y1.2.2.2 + 1 + 1 + 1 = 8; omega
  rw [← hy2] at s3
  have e5 : rd_h5 b y = (true, y2) := by
    rw [h5, hy2]
    exact Prod.ext q8 (knG q8)
  rw [e5, if_pos rfl] at hd0
  rw [show (true, y2).2.2.2.2 = 8 from hyp2] at hd0
  have ib := fun (k : Nat) (hk : k < b.1) => J.at (k := k) hk (by omega)
  have i6 := nx_in q6
  have i7 := nx_in q7
  have i8 := nx_in (b := b) (lo := 0) (hi := 3) (x := rd_go (rd_go y1 1) 1) q8
  rw [hyp1, (ib 5 (by omega)).1, show (8 : Int32) = nI 8 from rfl, show (1 : Int32) = nI 1 from rfl, nI_ltI (by have := (ib 5 (by omega)).2; omega) (by omega), nI_ltI (by omega) (by have := (ib 5 (by omega)).2; omega)] at i6
  rw [show (rd_go y1 1).2.2.2 = 6 by show y1.2.2.2 + 1 = 6; omega, (ib 6 (by omega)).1, show (8 : Int32) = nI 8 from rfl, show (1 : Int32) = nI 1 from rfl, nI_ltI (by have := (ib 6 (by omega)).2; omega) (by omega), nI_ltI (by omega) (by have := (ib 6 (by omega)).2; omega)] at i7
  rw [show (rd_go (rd_go y1 1) 1).2.2.2 = 7 by show y1.2.2.2 + 1 + 1 = 7; omega, (ib 7 (by omega)).1, show (3 : Int32) = nI 3 from rfl, show (0 : Int32) = nI 0 from rfl, nI_ltI (by have := (ib 7 (by omega)).2; omega) (by omega), nI_ltI (by omega) (by have := (ib 7 (by omega)).2; omega)] at i8
  have w6 : v6 = nI (by_h b 5) := by rw [n1, hyp1]
  have w7 : v7 = nI (by_h b 6) := by rw [p1]; show nI (by_h b (y1.2.2.2 + 1)) = _; rw [hyp1]
  have w8 : v8 = nI (by_h b 7) := by rw [s1]; show nI (by_h b (y1.2.2.2 + 1 + 1)) = _; rw [hyp1]
  obtain ⟨P, hP⟩ : ∃ P, P = pi_new p (by_h b 5) (by_h b 6) := ⟨_, rfl⟩
  have hd2' : rd_hd b p x = (true, rd_sc y2 (by_h b 7), P) := by rw [hd0, hP]
  have hHC : rd_HC b p x = rd_chs b P (rd_sc y2 (by_h b 7)) := by
    unfold rd_HC
    rw [hd2', if_pos rfl]
  rw [hHC]
  have GG := GP_new (p := p) (w := by_h b 5) (v := by_h b 6) (by omega) (by omega)
  rw [← hP] at GG
  obtain ⟨v9, g9, t1, t2, t3⟩ := e_next ((s3.v (k := 13) (y := v8) (by omega)).sc (by_h b 7)) I (by show y2.2.2.2 ≤ b.1; omega) 1 3
  unfold hd9
  rw [t1, Option.bind_some]
  unfold rd_chs
  by_cases q9 : (rd_nx b 1 3 (rd_sc y2 (by_h b 7))).1 = true
  · rw [if_pos q9]
    obtain ⟨u1, u2, u3, u4⟩ := t2 q9
    have i9 := nx_in q9
    have u4' : y2.2.2.2 < b.1 := u4
    rw [show (rd_sc y2 (by_h b 7)).2.2.2 = 8 from hyp2, (ib 8 (by omega)).1, show (3 : Int32) = nI 3 from rfl, show (1 : Int32) = nI 1 from rfl, nI_ltI (by have := (ib 8 (by omega)).2; omega) (by omega), nI_ltI (by omega) (by have := (ib 8 (by omega)).2; omega)] at i9
    have w9 : v9 = nI (by_h b 8) := by rw [u1]; show nI (by_h b y2.2.2.2) = _; rw [hyp2]
    rw [show (rd_sc y2 (by_h b 7)).2.2.2 = 8 from hyp2]
    have RNn : RN (upd g9.1 12 v9, g9.2) P := by
      rw [u2, s2, p2, n2, l2, hP]
      refine ⟨?_, ?_, fun c hc => absurd hc (Nat.not_lt_zero c), fun k hk => ?_⟩
      · show v6 = nI (by_h b 5)
        exact w6
      · show v7 = nI (by_h b 6)
        exact w7
      · show g4.2 8 k = mj_fil 192 0 p.2.2.2.2.2.2 0 k
        rw [ks k hk]
        unfold mj_fil
        rw [if_pos ⟨Nat.zero_le k, hk⟩]
    obtain ⟨g', x1, x2, x3⟩ := e_h99 (K := fun g17 => some g17) I (nn := by_h b 8) (by omega) (sc := v8) (by_h b 8) 2000 (upd g9.1 12 v9, g9.2) (rd_nx b 1 3 (rd_sc y2 (by_h b 7))).2 P (u3.v (by omega)) (by rw [(rd_nx_g q9).1]; show y2.2.2.2 + 1 ≤ b.1; omega) RNn GG.1 GG.2 (by rw [hP]; show 0 + _ = _; omega) (by show v9 = _; exact w9) (by show g9.1 13 = v8; rw [u2]; rfl) (by omega)
    rw [show P.2.2.1 = 0 by rw [hP]; rfl] at x1
    refine ⟨g', x1, fun z => ?_, x3⟩
    obtain ⟨y1', y2', y3', y4', y5', y6', y7', y8'⟩ := x2 z
    have hsc : (rd_chL b (by_h b 8) (rd_nx b 1 3 (rd_sc y2 (by_h b 7))).2 P).2.1.2.2.1 = by_h b 7 := by
      have := (rd_chL_in J hl (by_h b 8) (rd_nx b 1 3 (rd_sc y2 (by_h b 7))).2 P (by rw [(rd_nx_g q9).1]; show y2.2.2.2 + 1 ≤ b.1; omega) ⟨GG.1.1.2, GG.1.2.1.2, GG.1.2.2.1⟩ (fun c hc => (GG.1.2.2.2 c hc).1)).2.2.2.1
      rw [this, (rd_nx_g q9).1]
      rfl
    exact ⟨y1', y2', y3', y4', by rw [y5']; exact y6', by rw [hsc, y7', w8], by omega, by omega, y8'⟩
  · rw [if_neg q9]
    have B := (t3 (bF q9)).v (k := 12) (y := v9) (by omega)
    refine ⟨_, ?_, fun z => Bool.noConfusion z, fun _ => B⟩
    rw [l_readHead_99, if_neg B.pos.2]
    split <;> rfl
