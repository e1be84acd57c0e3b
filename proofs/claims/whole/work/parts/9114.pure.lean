set_option maxRecDepth 10000 in
set_option maxHeartbeats 2000000 in
theorem nx_in {b : by_B} {lo hi : Int32} {x : rd_X} (h : (rd_nx b lo hi x).1 = true) : ¬ by_get b (nI x.2.2.2) < lo ∧ ¬ hi < by_get b (nI x.2.2.2) := by
  unfold rd_nx at h
  split at h
  · exact Bool.noConfusion h
  · split at h
    · exact Bool.noConfusion h
    · rename_i q
      exact ⟨fun w => q (Or.inl w), fun w => q (Or.inr w)⟩
set_option maxRecDepth 10000 in
set_option maxHeartbeats 2000000 in
theorem pi_lst_97 {p : pi_P} (L : GL p) (h3 : p.2.2.1 ≤ 3) : ∃ l, 97 ≤ l ∧ l ≤ 123 ∧ pi_lst p = nI l := by
  unfold pi_lst
  by_cases q : p.2.2.1 = 0
  · exact ⟨97, by omega, by omega, if_pos q⟩
  · obtain ⟨j, h1, h2, e⟩ := L (p.2.2.1 - 1) (by omega)
    refine ⟨j + 1, by omega, by omega, ?_⟩
    rw [if_neg q, e, nI_1]
set_option maxRecDepth 10000 in
set_option maxHeartbeats 2000000 in
theorem RN.add {g : mo_G} {p : pi_P} {a1 a2 a3 : Int32} (R : RN g p) (h : p.2.2.1 < 3) {v : Nat → Int32} (e1 : v 10 = g.1 10) (e2 : v 11 = g.1 11) : RN (v, mo_uA (mo_uA (mo_uA g.2 5 (upd (g.2 5) p.2.2.1 a1)) 6 (upd (g.2 6) p.2.2.1 a2)) 7 (upd (g.2 7) p.2.2.1 a3)) (pi_add p a1 a2 a3) := by
  have e : pi_add p a1 a2 a3 = (p.1, p.2.1, p.2.2.1 + 1, upd p.2.2.2.1 p.2.2.1 a1, upd p.2.2.2.2.1 p.2.2.1 a2, upd p.2.2.2.2.2.1 p.2.2.1 a3, p.2.2.2.2.2.2) := if_pos h
  rw [e]
  refine ⟨e1.trans R.1, e2.trans R.2.1, fun c hc => ?_, fun k hk => R.2.2.2 k hk⟩
  change c < p.2.2.1 + 1 at hc
  show upd (g.2 5) p.2.2.1 a1 c = upd p.2.2.2.1 p.2.2.1 a1 c ∧ upd (g.2 6) p.2.2.1 a2 c = upd p.2.2.2.2.1 p.2.2.1 a2 c ∧ upd (g.2 7) p.2.2.1 a3 c = upd p.2.2.2.2.2.1 p.2.2.1 a3 c
  by_cases q : c = p.2.2.1
  · rw [q]
    exact ⟨by rw [ux_s, ux_s], by rw [ux_s, ux_s], by rw [ux_s, ux_s]⟩
  · obtain ⟨r1, r2, r3⟩ := R.2.2.1 c (by omega)
    exact ⟨by rw [ux_n q, ux_n q]; exact r1, by rw [ux_n q, ux_n q]; exact r2, by rw [ux_n q, ux_n q]; exact r3⟩
set_option maxRecDepth 10000 in
set_option maxHeartbeats 2000000 in
theorem GP.add {p : pi_P} {l t s : Nat} (G : GP p) (L : GL p) (h : p.2.2.1 < 3) (hl : 97 ≤ l ∧ l ≤ 122) (ht : t ≤ 2) (hs : 1 ≤ s ∧ s ≤ 2) : GP (pi_add p (nI l) (nI t) (nI s)) ∧ GL (pi_add p (nI l) (nI t) (nI s)) := by
  have e : pi_add p (nI l) (nI t) (nI s) = (p.1, p.2.1, p.2.2.1 + 1, upd p.2.2.2.1 p.2.2.1 (nI l), upd p.2.2.2.2.1 p.2.2.1 (nI t), upd p.2.2.2.2.2.1 p.2.2.1 (nI s), p.2.2.2.2.2.2) := if_pos h
  rw [e]
  refine ⟨⟨G.1, G.2.1, by show p.2.2.1 + 1 ≤ 3; omega, fun c hc => ?_⟩, fun c hc => ?_⟩
  · change c < p.2.2.1 + 1 at hc
    show (upd p.2.2.2.2.2.1 p.2.2.1 (nI s) c = 1 ∨ upd p.2.2.2.2.2.1 p.2.2.1 (nI s) c = 2) ∧ (upd p.2.2.2.2.1 p.2.2.1 (nI t) c = 0 ∨ upd p.2.2.2.2.1 p.2.2.1 (nI t) c = 1 ∨ upd p.2.2.2.2.1 p.2.2.1 (nI t) c = 2)
    by_cases q : c = p.2.2.1
    · rw [q, ux_s, ux_s]
      constructor
      · rcases (show s = 1 ∨ s = 2 by omega) with z | z <;> rw [z] <;> decide
      · rcases (show t = 0 ∨ t = 1 ∨ t = 2 by omega) with z | z | z <;> rw [z] <;> decide
    · rw [ux_n q, ux_n q]
      exact G.2.2.2 c (by omega)
  · change c < p.2.2.1 + 1 at hc
    show ∃ j, 97 ≤ j ∧ j ≤ 122 ∧ upd p.2.2.2.1 p.2.2.1 (nI l) c = nI j
    by_cases q : c = p.2.2.1
    · rw [q, ux_s]
      exact ⟨l, hl.1, hl.2, rfl⟩
    · rw [ux_n q]
      exact L c (by omega)
set_option maxRecDepth 10000 in
set_option maxHeartbeats 2000000 in
theorem e_h139 {K : mo_G → Option mo_G} {bk : Int32 → mo_G → Option mo_G} {g0 g : mo_G} {b : by_B} {x : rd_X} {p : pi_P} (h : RR g0 g x) (I : FI g0 b) (hp : x.2.2.2 ≤ b.1) (R : RN g p) (G : GP p) (L : GL p) (h3 : p.2.2.1 < 3) : ∃ g', j_readHead_139 K bk (nI p.2.2.1) (pi_lst p) (nI p.2.2.1) g = bk (nI (p.2.2.1 + 1)) g' ∧ (g'.1 12 = g.1 12 ∧ g'.1 13 = g.1 13 ∨ BD g0 g' (rd_c3 b (pi_lst p) x).2) ∧ ((rd_c3 b (pi_lst p) x).1 = true → RR g0 g' (rd_c3 b (pi_lst p) x).2 ∧ g'.1 12 = g.1 12 ∧ g'.1 13 = g.1 13 ∧ RN g' (rd_chP b x p) ∧ GP (rd_chP b x p) ∧ GL (rd_chP b x p) ∧ (rd_chP b x p).2.2.1 = p.2.2.1 + 1 ∧ (rd_c3 b (pi_lst p) x).2.2.2.2 ≤ b.1) ∧ ((rd_c3 b (pi_lst p) x).1 = false → BD g0 g' (rd_c3 b (pi_lst p) x).2) := by
  have gc := vp_in_nI (n := p.2.2.1) (N := 3) h3 (by decide)
  have cc : (nI p.2.2.1).toNatClampNeg = p.2.2.1 := nI_clamp (by omega)
  have hl := I.2.2.1
  unfold j_readHead_139
  obtain ⟨v1, g1, a1, a2, a3⟩ := e_next h I hp (pi_lst p) 122
  rw [a1, Option.bind_some, og_t gc, cc]
  by_cases q1 : (rd_nx b (pi_lst p) 122 x).1 = true
  · obtain ⟨b1, b2, b3, b4⟩ := a2 q1
    have go1 : (rd_nx b (pi_lst p) 122 x).2 = rd_go x 1 := (rd_nx_g q1).1
    rw [go1] at b3
    obtain ⟨v2, g2, c1, c2, c3⟩ := e_next (b3.a (j := 5) (f := upd (g1.2 5) p.2.2.1 v1) (by omega)) I (by show x.2.2.2 + 1 ≤ b.1; omega) 0 2
    rw [c1, Option.bind_some, og_t gc]
    by_cases q2 : (rd_nx b 0 2 (rd_go x 1)).1 = true
    · obtain ⟨d1, d2, d3, d4⟩ := c2 q2
      have go2 : (rd_nx b 0 2 (rd_go x 1)).2 = rd_go (rd_go x 1) 1 := (rd_nx_g q2).1
      rw [go2] at d3
      have d4' : x.2.2.2 + 1 < b.1 := d4
      obtain ⟨v3, g3, e1, e2, e3⟩ := e_next (d3.a (j := 6) (f := upd (g2.2 6) p.2.2.1 v2) (by omega)) I (by show x.2.2.2 + 1 + 1 ≤ b.1; omega) 1 2
      rw [e1, Option.bind_some, og_t gc, nI_1]
      have ec : rd_c3 b (pi_lst p) x = rd_nx b 1 2 (rd_go (rd_go x 1) 1) := by
        unfold rd_c3
        rw [if_pos q1, go1, if_pos q2, go2]
      rw [ec]
      refine ⟨_, rfl, ?_, fun q3 => ?_, fun q3 => (e3 q3).a (by omega)⟩
      · by_cases q3 : (rd_nx b 1 2 (rd_go (rd_go x 1) 1)).1 = true
        · obtain ⟨f1, f2, f3, f4⟩ := e2 q3
          left
          rw [f2, d2, b2]
          exact ⟨rfl, rfl⟩
        · right
          exact (e3 (by cases hq : (rd_nx b 1 2 (rd_go (rd_go x 1) 1)).1; rfl; exact absurd hq q3)).a (by omega)
      · obtain ⟨f1, f2, f3, f4⟩ := e2 q3
        have f4' : x.2.2.2 + 1 + 1 < b.1 := f4
        have J := I.2.2.2
        obtain ⟨l, l1, l2, l3⟩ := pi_lst_97 L (by omega)
        have i1 := nx_in q1
        have i2 := nx_in q2
        have i3 := nx_in q3
        obtain ⟨y1, y2⟩ := J.at (k := x.2.2.2) b4 (by omega)
        obtain ⟨y3, y4⟩ := J.at (k := x.2.2.2 + 1) d4' (by omega)
        obtain ⟨y5, y6⟩ := J.at (k := x.2.2.2 + 2) f4' (by omega)
        rw [y1, l3, show (122 : Int32) = nI 122 from rfl, nI_ltI (by omega) (by omega), nI_ltI (by omega) (by omega)] at i1
        rw [show (rd_go x 1).2.2.2 = x.2.2.2 + 1 from rfl, y3, show (2 : Int32) = nI 2 from rfl, show (0 : Int32) = nI 0 from rfl, nI_ltI (by omega) (by omega), nI_ltI (by omega) (by omega)] at i2
        rw [show (rd_go (rd_go x 1) 1).2.2.2 = x.2.2.2 + 2 from rfl, y5, show (2 : Int32) = nI 2 from rfl, show (1 : Int32) = nI 1 from rfl, nI_ltI (by omega) (by omega), nI_ltI (by omega) (by omega)] at i3
        have hGP := G.add L h3 (l := by_h b x.2.2.2) (t := by_h b (x.2.2.2 + 1)) (s := by_h b (x.2.2.2 + 2)) (by omega) (by omega) (by omega)
        refine ⟨f3.a (by omega), ?_, ?_, ?_, hGP.1, hGP.2, ?_, ?_⟩
        · rw [f2, d2, b2]
          rfl
        · rw [f2, d2, b2]
          rfl
        · have rn := R.add (a1 := nI (by_h b x.2.2.2)) (a2 := nI (by_h b (x.2.2.2 + 1))) (a3 := nI (by_h b (x.2.2.2 + 2))) h3 (v := g3.1) (by rw [f2, d2, b2]; rfl) (by rw [f2, d2, b2]; rfl)
          have eA : mo_uA g3.2 7 (upd (g3.2 7) p.2.2.1 v3) = mo_uA (mo_uA (mo_uA g.2 5 (upd (g.2 5) p.2.2.1 (nI (by_h b x.2.2.2)))) 6 (upd (g.2 6) p.2.2.1 (nI (by_h b (x.2.2.2 + 1))))) 7 (upd (g.2 7) p.2.2.1 (nI (by_h b (x.2.2.2 + 2)))) := by
            rw [f2, d2, b2, f1, d1, b1]
            rfl
          rw [eA]
          exact rn
        · show (pi_add p _ _ _).2.2.1 = _
          unfold pi_add
          rw [if_pos h3]
        · rw [(rd_nx_g q3).1]
          show x.2.2.2 + 1 + 1 + 1 ≤ b.1
          omega
    · have q2' : (rd_nx b 0 2 (rd_go x 1)).1 = false := by cases hq : (rd_nx b 0 2 (rd_go x 1)).1; rfl; exact absurd hq q2
      have B := c3 q2'
      have B2 := B.a (j := 6) (f := upd (g2.2 6) p.2.2.1 v2) (by omega)
      rw [B2.next, Option.bind_some, og_t gc, nI_1]
      have ec : rd_c3 b (pi_lst p) x = (false, (rd_nx b 0 2 (rd_go x 1)).2) := by
        unfold rd_c3
        rw [if_pos q1, go1, if_neg q2]
      rw [ec]
      exact ⟨_, rfl, Or.inr (B2.a (by omega)), fun z => Bool.noConfusion z, fun _ => B2.a (by omega)⟩
  · have q1' : (rd_nx b (pi_lst p) 122 x).1 = false := by cases hq : (rd_nx b (pi_lst p) 122 x).1; rfl; exact absurd hq q1
    have B := (a3 q1').a (j := 5) (f := upd (g1.2 5) p.2.2.1 v1) (by omega)
    rw [B.next, Option.bind_some, og_t gc]
    have B2 := B.a (j := 6) (f := upd (mo_uA g1.2 5 (upd (g1.2 5) p.2.2.1 v1) 6) p.2.2.1 0) (by omega)
    rw [B2.next, Option.bind_some, og_t gc, nI_1]
    have ec : rd_c3 b (pi_lst p) x = (false, (rd_nx b (pi_lst p) 122 x).2) := by
      unfold rd_c3
      rw [if_neg q1]
    rw [ec]
    exact ⟨_, rfl, Or.inr (B2.a (by omega)), fun z => Bool.noConfusion z, fun _ => B2.a (by omega)⟩
