def FD (g g' : mo_G) : Prop := (∀ k, k < 6 → k ≠ 4 → g'.1 k = g.1 k) ∧ ∀ j, j < 5 → g'.2 j = g.2 j
set_option maxRecDepth 10000 in
set_option maxHeartbeats 2000000 in
theorem FD.rfl {g : mo_G} : FD g g := ⟨fun _ _ _ => Eq.refl _, fun _ _ => Eq.refl _⟩
set_option maxRecDepth 10000 in
set_option maxHeartbeats 2000000 in
theorem FD.tr {g g1 g2 : mo_G} (h : FD g g1) (k : FD g1 g2) : FD g g2 := ⟨fun i h1 h2 => (k.1 i h1 h2).trans (h.1 i h1 h2), fun j hj => (k.2 j hj).trans (h.2 j hj)⟩
set_option maxRecDepth 10000 in
set_option maxHeartbeats 2000000 in
theorem FD.v {g : mo_G} {k : Nat} {x : Int32} (h : 6 ≤ k ∨ k = 4) : FD g (upd g.1 k x, g.2) := ⟨fun i h1 h2 => ux_n (by omega), fun _ _ => Eq.refl _⟩
set_option maxRecDepth 10000 in
set_option maxHeartbeats 2000000 in
theorem FD.a {g : mo_G} {j : Nat} {f : Nat → Int32} (h : 5 ≤ j) : FD g (g.1, mo_uA g.2 j f) := ⟨fun _ _ _ => Eq.refl _, fun i hi => uA_n (by omega)⟩
def FI (g : mo_G) (b : by_B) : Prop := g.1 3 = nI b.1 ∧ by_eq b (g.2 4) ∧ b.1 ≤ 1500 ∧ by_ok b
set_option maxRecDepth 10000 in
set_option maxHeartbeats 2000000 in
theorem FI.fd {g g' : mo_G} {b : by_B} (h : FI g b) (k : FD g g') : FI g' b := ⟨(k.1 3 (by omega) (by omega)).trans h.1, by rw [k.2 4 (by omega)]; exact h.2.1, h.2.2⟩
set_option maxRecDepth 10000 in
set_option maxHeartbeats 2000000 in
theorem FI.at {g : mo_G} {b : by_B} (h : FI g b) {k : Nat} (hk : k < b.1) : g.2 4 k = nI (by_h b k) ∧ by_h b k < 256 ∧ by_get b (nI k) = nI (by_h b k) := by
  have h1 := h.2.2.2.at hk (by have := h.2.2.1; omega)
  refine ⟨?_, h1.2, h1.1⟩
  rw [h.2.1 k hk, ← h1.1, by_get_at hk (by have := h.2.2.1; omega)]
def RR (g0 g : mo_G) (x : rd_X) : Prop := FD g0 g ∧ g.1 4 = x.1 ∧ g.1 9 = 0 ∧ g.1 8 = nI x.2.2.2 ∧ x.2.1 = 0
def BD (g0 g : mo_G) (x : rd_X) : Prop := FD g0 g ∧ g.1 4 = x.1 ∧ g.1 9 = if x.2.1 = 0 then 1 else 2
set_option maxRecDepth 10000 in
set_option maxHeartbeats 2000000 in
theorem BD.pos {g0 g : mo_G} {x : rd_X} (h : BD g0 g x) : ¬ g.1 9 ≤ 0 ∧ ¬ g.1 9 = 0 := by
  rw [h.2.2]
  split <;> decide
set_option maxRecDepth 10000 in
set_option maxHeartbeats 2000000 in
theorem BD.next {g0 g : mo_G} {x : rd_X} (h : BD g0 g x) (lo hi how : Int32) : r_next lo hi how g = some (0, g) := by
  unfold r_next
  rw [if_neg h.pos.1]
set_option maxRecDepth 10000 in
set_option maxHeartbeats 2000000 in
theorem BD.wrong {g0 g : mo_G} {x : rd_X} (h : BD g0 g x) (p c : Int32) : r_wrong p c g = some g := by
  unfold r_wrong
  rw [if_neg h.pos.1]
set_option maxRecDepth 10000 in
set_option maxHeartbeats 2000000 in
theorem BD.v {g0 g : mo_G} {x : rd_X} (h : BD g0 g x) {k : Nat} {y : Int32} (hk : 10 ≤ k) : BD g0 (upd g.1 k y, g.2) x := ⟨h.1.tr (.v (by omega)), (ux_n (by omega)).trans h.2.1, (ux_n (by omega)).trans h.2.2⟩
set_option maxRecDepth 10000 in
set_option maxHeartbeats 2000000 in
theorem BD.a {g0 g : mo_G} {x : rd_X} (h : BD g0 g x) {j : Nat} {f : Nat → Int32} (hj : 5 ≤ j) : BD g0 (g.1, mo_uA g.2 j f) x := ⟨h.1.tr (.a hj), h.2.1, h.2.2⟩
set_option maxRecDepth 10000 in
set_option maxHeartbeats 2000000 in
theorem RR.v {g0 g : mo_G} {x : rd_X} (h : RR g0 g x) {k : Nat} {y : Int32} (hk : 10 ≤ k) : RR g0 (upd g.1 k y, g.2) x := ⟨h.1.tr (.v (by omega)), (ux_n (by omega)).trans h.2.1, (ux_n (by omega)).trans h.2.2.1, (ux_n (by omega)).trans h.2.2.2.1, h.2.2.2.2⟩
set_option maxRecDepth 10000 in
set_option maxHeartbeats 2000000 in
theorem RR.a {g0 g : mo_G} {x : rd_X} (h : RR g0 g x) {j : Nat} {f : Nat → Int32} (hj : 5 ≤ j) : RR g0 (g.1, mo_uA g.2 j f) x := ⟨h.1.tr (.a hj), h.2.1, h.2.2.1, h.2.2.2.1, h.2.2.2.2⟩
set_option maxRecDepth 10000 in
set_option maxHeartbeats 2000000 in
theorem RR.sc {g0 g : mo_G} {x : rd_X} (h : RR g0 g x) (k : Nat) : RR g0 g (rd_sc x k) := h
set_option maxRecDepth 10000 in
set_option maxHeartbeats 2000000 in
theorem RR.wrong {g0 g : mo_G} {x : rd_X} (h : RR g0 g x) (p c : Int32) : r_wrong p c g = some (upd (upd g.1 4 p) 9 c, g.2) := by
  unfold r_wrong
  rw [if_pos (by rw [h.2.2.1]; decide)]
set_option maxRecDepth 10000 in
set_option maxHeartbeats 2000000 in
theorem RR.bad {g0 g : mo_G} {x : rd_X} (h : RR g0 g x) (v : Int32) : BD g0 (upd (upd g.1 4 v) 9 1, g.2) (rd_fl x v) := by
  refine ⟨h.1.tr (FD.tr (g1 := (upd g.1 4 v, g.2)) (.v (Or.inr rfl)) (.v (Or.inl (by omega)))), rfl, ?_⟩
  show (1 : Int32) = if x.2.1 = 0 then 1 else 2
  rw [if_pos h.2.2.2.2]
set_option maxRecDepth 10000 in
set_option maxHeartbeats 2000000 in
theorem e_n57 {g : mo_G} {k : Nat} (h : g.1 8 = nI k) (hk : k < 1500) : j_next_57 g = some (g.2 4 k, (upd g.1 8 (nI (k + 1)), g.2)) := by
  unfold j_next_57
  rw [h, nI_1, nI_pred, og_t (vp_in_nI hk (by decide)), nI_clamp (by omega)]
set_option maxRecDepth 10000 in
set_option maxHeartbeats 2000000 in
theorem in0 {v lo hi : Int32} (z : v < lo ∨ hi < v) : (if v < lo then (0 : Int32) else if hi < v then 0 else 1) = 0 := by
  by_cases w : v < lo
  · exact if_pos w
  · rw [if_neg w]
    rcases z with z | z
    · exact absurd z w
    · exact if_pos z
set_option maxRecDepth 10000 in
set_option maxHeartbeats 2000000 in
theorem e_nextG {g0 g : mo_G} {b : by_B} {x : rd_X} (h : RR g0 g x) (I : FI g0 b) (hp : x.2.2.2 ≤ b.1) (lo hi how : Int32) : ∃ v g', r_next lo hi how g = some (v, g') ∧ ((rd_nx b lo hi x).1 = true → v = nI (by_h b x.2.2.2) ∧ g' = (upd g.1 8 (nI (x.2.2.2 + 1)), g.2) ∧ x.2.2.2 < b.1 ∧ (rd_nx b lo hi x).2 = rd_go x 1) ∧ ((rd_nx b lo hi x).1 = false → FD g0 g' ∧ g'.1 4 = (rd_nx b lo hi x).2.1 ∧ (rd_nx b lo hi x).2.2 = x.2 ∧ g'.1 9 = if x.2.2.2 < b.1 then how else 1) := by
  have J := I.fd h.1
  have hl := I.2.2.1
  unfold r_next
  rw [if_pos (by rw [h.2.2.1]; decide), h.2.2.2.1, J.1]
  by_cases q : b.1 < x.2.2.2 + 1
  · have e : rd_nx b lo hi x = (false, rd_fl x (nI b.1)) := if_pos q
    rw [if_neg (nI_nlt (by omega) (by omega)), h.wrong, Option.bind_some, e]
    refine ⟨_, _, rfl, fun z => Bool.noConfusion z, fun _ => ⟨(h.bad (nI b.1)).1, rfl, rfl, ?_⟩⟩
    rw [if_neg (by omega)]
    rfl
  · obtain ⟨a1, a2, a3⟩ := J.at (k := x.2.2.2) (by omega)
    rw [if_pos (nI_lt (by omega) (by omega)), og_t (vp_in_nI (by omega) (by decide)), nI_clamp (by omega), a1, e_in, Option.bind_some]
    by_cases z : nI (by_h b x.2.2.2) < lo ∨ hi < nI (by_h b x.2.2.2)
    · have e : rd_nx b lo hi x = (false, rd_fl x (nI x.2.2.2)) := by
        unfold rd_nx
        rw [if_neg q, a3, if_pos z]
      rw [in0 z, if_pos rfl, h.wrong, Option.bind_some, e, e_n57 (g := (upd (upd g.1 4 (nI x.2.2.2)) 9 how, g.2)) (k := x.2.2.2) h.2.2.2.1 (by omega)]
      refine ⟨_, _, rfl, fun z => Bool.noConfusion z, fun _ => ⟨?_, rfl, rfl, ?_⟩⟩
      · exact h.1.tr (FD.tr (g1 := (upd g.1 4 (nI x.2.2.2), g.2)) (.v (Or.inr rfl)) (FD.tr (g1 := (upd (upd g.1 4 (nI x.2.2.2)) 9 how, g.2)) (.v (Or.inl (by omega))) (.v (Or.inl (by omega)))))
      · rw [if_pos (by omega)]
        rfl
    · have e : rd_nx b lo hi x = (true, rd_go x 1) := by
        unfold rd_nx
        rw [if_neg q, a3, if_neg z]
      rw [if_neg (fun w => z (Or.inl w)), if_neg (fun w => z (Or.inr w)), if_neg (by decide), e, e_n57 (k := x.2.2.2) h.2.2.2.1 (by omega), a1]
      exact ⟨_, _, rfl, fun _ => ⟨rfl, rfl, by omega, rfl⟩, fun z => Bool.noConfusion z⟩
set_option maxRecDepth 10000 in
set_option maxHeartbeats 2000000 in
theorem RR.go {g0 g : mo_G} {x : rd_X} (h : RR g0 g x) : RR g0 (upd g.1 8 (nI (x.2.2.2 + 1)), g.2) (rd_go x 1) := ⟨h.1.tr (.v (Or.inl (by omega))), h.2.1, h.2.2.1, rfl, h.2.2.2.2⟩
set_option maxRecDepth 10000 in
set_option maxHeartbeats 2000000 in
theorem e_next {g0 g : mo_G} {b : by_B} {x : rd_X} (h : RR g0 g x) (I : FI g0 b) (hp : x.2.2.2 ≤ b.1) (lo hi : Int32) : ∃ v g', r_next lo hi 1 g = some (v, g') ∧ ((rd_nx b lo hi x).1 = true → v = nI (by_h b x.2.2.2) ∧ g' = (upd g.1 8 (nI (x.2.2.2 + 1)), g.2) ∧ RR g0 g' (rd_nx b lo hi x).2 ∧ x.2.2.2 < b.1) ∧ ((rd_nx b lo hi x).1 = false → BD g0 g' (rd_nx b lo hi x).2) := by
  obtain ⟨v, g', h1, h2, h3⟩ := e_nextG h I hp lo hi 1
  refine ⟨v, g', h1, fun z => ?_, fun z => ?_⟩
  · obtain ⟨a1, a2, a3, a4⟩ := h2 z
    refine ⟨a1, a2, ?_, a3⟩
    rw [a4, a2]
    exact h.go
  · obtain ⟨a1, a2, a3, a4⟩ := h3 z
    refine ⟨a1, a2, ?_⟩
    rw [a3, if_pos h.2.2.2.2, a4]
    split <;> rfl
set_option maxRecDepth 10000 in
set_option maxHeartbeats 2000000 in
theorem e_nextK {g0 g : mo_G} {b : by_B} {x : rd_X} (h : RR g0 g x) (I : FI g0 b) (hp : x.2.2.2 ≤ b.1) (lo hi : Int32) : ∃ v g', r_next lo hi 2 g = some (v, g') ∧ ((rd_kn b lo hi x).1 = true → v = nI (by_h b x.2.2.2) ∧ g' = (upd g.1 8 (nI (x.2.2.2 + 1)), g.2) ∧ RR g0 g' (rd_kn b lo hi x).2 ∧ x.2.2.2 < b.1) ∧ ((rd_kn b lo hi x).1 = false → BD g0 g' (rd_kn b lo hi x).2) := by
  obtain ⟨v, g', h1, h2, h3⟩ := e_nextG h I hp lo hi 2
  refine ⟨v, g', h1, fun z => ?_, fun z => ?_⟩
  · obtain ⟨a1, a2, a3, a4⟩ := h2 z
    refine ⟨a1, a2, ?_, a3⟩
    have z2 : (rd_nx b lo hi x).1 = true := z
    have e : (rd_kn b lo hi x).2 = rd_un (rd_go x 1) 0 := by
      unfold rd_kn
      rw [a4, z2, if_neg (fun w => Bool.noConfusion w.2)]
    rw [e, a2]
    exact ⟨h.go.1, h.go.2.1, h.go.2.2.1, h.go.2.2.2.1, rfl⟩
  · obtain ⟨a1, a2, a3, a4⟩ := h3 z
    have z2 : (rd_nx b lo hi x).1 = false := z
    refine ⟨a1, a2, ?_⟩
    rw [a4]
    show _ = if (if x.2.2.2 < b.1 ∧ (rd_nx b lo hi x).1 = false then (1 : Int32) else 0) = 0 then 1 else 2
    by_cases w : x.2.2.2 < b.1
    · rw [if_pos w, show (if x.2.2.2 < b.1 ∧ (rd_nx b lo hi x).1 = false then (1 : Int32) else 0) = 1 from if_pos ⟨w, z2⟩]
      rfl
    · rw [if_neg w, show (if x.2.2.2 < b.1 ∧ (rd_nx b lo hi x).1 = false then (1 : Int32) else 0) = 0 from if_neg (fun q => w q.1)]
      rfl
noncomputable def hd9 (g : mo_G) : Option mo_G := (r_next 1 3 1 g).bind (fun z9 => l_readHead_99 (fun g17 => some g17) 2000 0 (upd z9.2.1 12 z9.1, z9.2.2))
noncomputable def hd8 (g : mo_G) : Option mo_G := (r_next 0 3 2 g).bind (fun z8 => hd9 (upd z8.2.1 13 z8.1, z8.2.2))
noncomputable def hd7 (g : mo_G) : Option mo_G := (r_next 1 8 1 g).bind (fun z7 => hd8 (upd z7.2.1 11 z7.1, z7.2.2))
noncomputable def hd6 (g : mo_G) : Option mo_G := (r_next 1 8 1 g).bind (fun z6 => hd7 (upd z6.2.1 10 z6.1, z6.2.2))
noncomputable def hd5 (g : mo_G) : Option mo_G := (r_next 2 2 2 g).bind (fun z5 => hd6 z5.2)
noncomputable def hd4 (g : mo_G) : Option mo_G := (r_next 1 1 1 g).bind (fun z4 => hd5 z4.2)
noncomputable def hd3 (g : mo_G) : Option mo_G := (r_next 49 49 1 g).bind (fun z3 => hd4 z3.2)
noncomputable def hd2 (g : mo_G) : Option mo_G := (r_next 47 47 1 g).bind (fun z2 => hd3 z2.2)
noncomputable def hd1 (g : mo_G) : Option mo_G := (r_next 118 118 1 g).bind (fun z1 => hd2 z1.2)
set_option maxRecDepth 10000 in
set_option maxHeartbeats 2000000 in
theorem rh_hd (g : mo_G) : r_readHead g = hd1 (upd g.1 8 0, g.2) := rfl
set_option maxRecDepth 10000 in
set_option maxHeartbeats 2000000 in
theorem BD.h9 {g0 g : mo_G} {x : rd_X} (h : BD g0 g x) : ∃ g', hd9 g = some g' ∧ BD g0 g' x := by
  unfold hd9
  rw [h.next, Option.bind_some, l_readHead_99, show (upd g.1 12 0, g.2).1 12 = 0 from rfl, if_pos (by decide)]
  exact ⟨_, rfl, h.v (by omega)⟩
set_option maxRecDepth 10000 in
set_option maxHeartbeats 2000000 in
theorem BD.h8 {g0 g : mo_G} {x : rd_X} (h : BD g0 g x) : ∃ g', hd8 g = some g' ∧ BD g0 g' x := by
  unfold hd8
  rw [h.next, Option.bind_some]
  exact (h.v (by omega)).h9
set_option maxRecDepth 10000 in
set_option maxHeartbeats 2000000 in
theorem BD.h7 {g0 g : mo_G} {x : rd_X} (h : BD g0 g x) : ∃ g', hd7 g = some g' ∧ BD g0 g' x := by
  unfold hd7
  rw [h.next, Option.bind_some]
  exact (h.v (by omega)).h8
set_option maxRecDepth 10000 in
set_option maxHeartbeats 2000000 in
theorem BD.h6 {g0 g : mo_G} {x : rd_X} (h : BD g0 g x) : ∃ g', hd6 g = some g' ∧ BD g0 g' x := by
  unfold hd6
  rw [h.next, Option.bind_some]
  exact (h.v (by omega)).h7
set_option maxRecDepth 10000 in
set_option maxHeartbeats 2000000 in
theorem BD.h5 {g0 g : mo_G} {x : rd_X} (h : BD g0 g x) : ∃ g', hd5 g = some g' ∧ BD g0 g' x := by
  unfold hd5
  rw [h.next, Option.bind_some]
  exact h.h6
set_option maxRecDepth 10000 in
set_option maxHeartbeats 2000000 in
theorem BD.h4 {g0 g : mo_G} {x : rd_X} (h : BD g0 g x) : ∃ g', hd4 g = some g' ∧ BD g0 g' x := by
  unfold hd4
  rw [h.next, Option.bind_some]
  exact h.h5
set_option maxRecDepth 10000 in
set_option maxHeartbeats 2000000 in
theorem BD.h3 {g0 g : mo_G} {x : rd_X} (h : BD g0 g x) : ∃ g', hd3 g = some g' ∧ BD g0 g' x := by
  unfold hd3
  rw [h.next, Option.bind_some]
  exact h.h4
set_option maxRecDepth 10000 in
set_option maxHeartbeats 2000000 in
theorem BD.h2 {g0 g : mo_G} {x : rd_X} (h : BD g0 g x) : ∃ g', hd2 g = some g' ∧ BD g0 g' x := by
  unfold hd2
  rw [h.next, Option.bind_some]
  exact h.h3
def RN (g : mo_G) (p : pi_P) : Prop := g.1 10 = nI p.1 ∧ g.1 11 = nI p.2.1 ∧ (∀ c, c < p.2.2.1 → g.2 5 c = p.2.2.2.1 c ∧ g.2 6 c = p.2.2.2.2.1 c ∧ g.2 7 c = p.2.2.2.2.2.1 c) ∧ ∀ k, k < 192 → g.2 8 k = p.2.2.2.2.2.2 k
set_option maxRecDepth 10000 in
set_option maxHeartbeats 2000000 in
theorem RN.v {g : mo_G} {p : pi_P} (h : RN g p) {k : Nat} {y : Int32} (h1 : k ≠ 10) (h2 : k ≠ 11) : RN (upd g.1 k y, g.2) p := ⟨(ux_n (Ne.symm h1)).trans h.1, (ux_n (Ne.symm h2)).trans h.2.1, h.2.2⟩
set_option maxRecDepth 10000 in
set_option maxHeartbeats 2000000 in
theorem GP_new {p : pi_P} {w v : Nat} (h1 : 1 ≤ w ∧ w ≤ 8) (h2 : 1 ≤ v ∧ v ≤ 8) : GP (pi_new p w v) ∧ GL (pi_new p w v) := ⟨⟨h1, h2, by show 0 ≤ 3; omega, fun c hc => absurd hc (Nat.not_lt_zero c)⟩, fun c hc => absurd hc (Nat.not_lt_zero c)⟩
