theorem Ob.loc {h h' : mj_H} {b : by_B} {f : Nat → Int32} {r s q : by_B} {pa pb : Nat} {p p2 : pi_P} {v : Int32} (O : Ob h b f r s q pa pb p p2 v) (e : ∀ i, i < 27 → h'[i]? = h[i]?) : Ob h' b f r s q pa pb p p2 v := by
  obtain ⟨o0, B, C, P2, ow, od, ok2, okb, opq⟩ := O
  obtain ⟨⟨⟨c3, B4, P, z, okp⟩, W1, W2⟩, ⟨k8, B9⟩, B6⟩ := C
  have byl : ∀ {a c n : Nat} {x : by_B}, a < 27 → c < 27 → By h a c n x → By h' a c n x := fun ha hc B => ⟨(e _ ha).trans B.1, (e _ hc).trans B.2.1, B.2.2⟩
  have pil : ∀ {a : Nat} {x : pi_P}, a + 4 < 27 → Pi h a (a + 1) (a + 2) (a + 3) (a + 4) x → Pi h' a (a + 1) (a + 2) (a + 3) (a + 4) x := fun ha P => ⟨(e _ (by omega)).trans P.1, (e _ (by omega)).trans P.2.1, (e _ (by omega)).trans P.2.2.1, (e _ (by omega)).trans P.2.2.2.1, (e _ (by omega)).trans P.2.2.2.2.1, P.2.2.2.2.2⟩
  obtain ⟨w0, w1, w2, w3, w4, w5⟩ := od
  exact ⟨(e _ (by omega)).trans o0, byl (by omega) (by omega) B, ⟨⟨⟨(e _ (by omega)).trans c3, byl (by omega) (by omega) B4, pil (by omega) P, z, okp⟩, (e _ (by omega)).trans W1, (e _ (by omega)).trans W2⟩, ⟨(e _ (by omega)).trans k8, byl (by omega) (by omega) B9⟩, byl (by omega) (by omega) B6⟩, pil (by omega) P2, (e _ (by omega)).trans ow, ⟨w0, w1, w2, w3, w4, (e _ (by omega)).trans w5⟩, ok2, okb, opq⟩
theorem Ob.z {h : mj_H} {b : by_B} {f : Nat → Int32} {r s q : by_B} {pa pb : Nat} {p p2 : pi_P} {v : Int32} (O : Ob h b f r s q pa pb p p2 v) : pa = 17 ∧ pb = 22 ∨ pa = 22 ∧ pb = 17 := O.2.2.2.2.2.2.2.2
theorem Ob.pic {h : mj_H} {b : by_B} {f : Nat → Int32} {r s q : by_B} {pa pb : Nat} {p p2 p' : pi_P} {v : Int32} (O : Ob h b f r s q pa pb p p2 v) (hp : pi_bd p') (ho : pi_ok p') : Ob (ob_up h pa p') b f r s q pa pb p' p2 v := by
  have oz := O.z
  obtain ⟨o0, B, C, P2, ow, ⟨w0, w1, w2, w3, w4, w5⟩, ok2, okb, opq⟩ := O
  have z : 17 ≤ pa ∧ 17 ≤ pa + 1 ∧ 17 ≤ pa + 2 ∧ 17 ≤ pa + 3 ∧ 17 ≤ pa + 4 := by omega
  have e : ∀ {i : Nat}, i < 17 → (ob_up h pa p')[i]? = h[i]? := fun hi => pi_fr17 z hi
  have e2 : ∀ {i : Nat}, pb ≤ i → i ≤ pb + 4 → (ob_up h pa p')[i]? = h[i]? := fun h1 h2 => pi_fr (by omega) (by omega) (by omega) (by omega) (by omega)
  exact ⟨(e (by omega)).trans o0, ⟨(e (by omega)).trans B.1, (e (by omega)).trans B.2.1, B.2.2⟩, C.pi hp ho, ⟨(e2 (by omega) (by omega)).trans P2.1, (e2 (by omega) (by omega)).trans P2.2.1, (e2 (by omega) (by omega)).trans P2.2.2.1, (e2 (by omega) (by omega)).trans P2.2.2.2.1, (e2 (by omega) (by omega)).trans P2.2.2.2.2.1, P2.2.2.2.2.2⟩, (e (by omega)).trans ow, ⟨w0, w1, w2, w3, w4, (e (by omega)).trans w5⟩, ok2, okb, opq⟩
theorem Ob.fw {h : mj_H} {b b' : by_B} {f f' : Nat → Int32} {r s q r' s' q' : by_B} {pa pb : Nat} {p p2 : pi_P} {v : Int32} (O : Ob h b f r s q pa pb p p2 v) (hb : b'.1 ≤ 1500) (hr : r'.1 ≤ 384) (hs : s'.1 ≤ 384) (hq : q'.1 ≤ 400) (ok : by_ok b') : Ob (fw_up h b' f' r' s' q') b' f' r' s' q' pa pb p p2 v := by
  have oz := O.z
  obtain ⟨o0, B, C, P2, ow, ⟨w0, w1, w2, w3, w4, w5⟩, ok2, okb, opq⟩ := O
  have F := Fw.up (f' := f') ⟨B, C⟩ hb hr hs hq
  have e : ∀ {i : Nat}, 13 ≤ i ∨ i = 0 ∨ i = 3 ∨ i = 8 ∨ i = 11 → (fw_up h b' f' r' s' q')[i]? = h[i]? := fun hi => fw_fr hi
  exact ⟨(e (by omega)).trans o0, F.1, F.2, P2.via (by omega) (fun i hi => e (by omega)), (e (by omega)).trans ow, ⟨w0, w1, w2, w3, w4, (e (by omega)).trans w5⟩, ok2, ok, opq⟩
theorem Ob.by {h : mj_H} {b b' : by_B} {f : Nat → Int32} {r s q : by_B} {pa pb : Nat} {p p2 : pi_P} {v : Int32} (O : Ob h b f r s q pa pb p p2 v) (hb : b'.1 ≤ 1500) (ok : by_ok b') : Ob (by_up h 1 2 1500 b') b' f r s q pa pb p p2 v := by
  rw [Fw.b ⟨O.2.1, O.2.2.1⟩]
  exact O.fw hb O.2.2.1.1.1.2.1.2.2.1 O.2.2.1.2.1.2.2.2.1 O.2.2.1.2.2.2.2.1 ok
theorem Ob.s0 {h : mj_H} {b : by_B} {f : Nat → Int32} {r s q : by_B} {pa pb : Nat} {p p2 : pi_P} {v v' : Int32} (O : Ob h b f r s q pa pb p p2 v) : Ob (h.set 0 (.inr (0, [.ref 1, .ref 3, .ref 13, .ref 14, .ref pa, .ref pb, .int v']))) b f r s q pa pb p p2 v' ∧ (pi_ok p → Ob (h.set 0 (.inr (0, [.ref 1, .ref 3, .ref 13, .ref 14, .ref pb, .ref pa, .int v']))) b f r s q pb pa p2 p v') := by
  have oz := O.z
  obtain ⟨o0, B, C, P2, ow, ⟨w0, w1, w2, w3, w4, w5⟩, ok2, okb, opq⟩ := O
  have e : ∀ {x : mj_C} {i : Nat}, 0 < i → (h.set 0 x)[i]? = h[i]? := fun hi => List.getElem?_set_ne (by omega)
  have byl : ∀ {x : mj_C} {a c n : Nat} {y : by_B}, 0 < a → 0 < c → By h a c n y → By (h.set 0 x) a c n y := fun ha hc B => ⟨(e ha).trans B.1, (e hc).trans B.2.1, B.2.2⟩
  have pil : ∀ {x : mj_C} {a : Nat} {y : pi_P}, 0 < a → Pi h a (a + 1) (a + 2) (a + 3) (a + 4) y → Pi (h.set 0 x) a (a + 1) (a + 2) (a + 3) (a + 4) y := fun ha P => ⟨(e ha).trans P.1, (e (by omega)).trans P.2.1, (e (by omega)).trans P.2.2.1, (e (by omega)).trans P.2.2.2.1, (e (by omega)).trans P.2.2.2.2.1, P.2.2.2.2.2⟩
  obtain ⟨⟨⟨c3, B4, P, z, okp⟩, W1, W2⟩, ⟨k8, B9⟩, B6⟩ := C
  have z2 : 17 ≤ pb ∧ 17 ≤ pb + 1 ∧ 17 ≤ pb + 2 ∧ 17 ≤ pb + 3 ∧ 17 ≤ pb + 4 := by omega
  refine ⟨⟨mj_sS o0, byl (by omega) (by omega) B, ⟨⟨⟨(e (by omega)).trans c3, byl (by omega) (by omega) B4, pil (by omega) P, z, okp⟩, (e (by omega)).trans W1, (e (by omega)).trans W2⟩, ⟨(e (by omega)).trans k8, byl (by omega) (by omega) B9⟩, byl (by omega) (by omega) B6⟩, pil (by omega) P2, (e (by omega)).trans ow, ⟨w0, w1, w2, w3, w4, (e (by omega)).trans w5⟩, ok2, okb, opq⟩, fun okp2 => ⟨mj_sS o0, byl (by omega) (by omega) B, ⟨⟨⟨(e (by omega)).trans c3, byl (by omega) (by omega) B4, pil (by omega) P2, z2, ok2⟩, (e (by omega)).trans W1, (e (by omega)).trans W2⟩, ⟨(e (by omega)).trans k8, byl (by omega) (by omega) B9⟩, byl (by omega) (by omega) B6⟩, pil (by omega) P, (e (by omega)).trans ow, ⟨w0, w1, w2, w3, w4, (e (by omega)).trans w5⟩, okp, okb, by omega⟩⟩
theorem Ob.rd {h : mj_H} {b : by_B} {f f' : Nat → Int32} {r s q r' s' : by_B} {pa pb : Nat} {p p2 p' : pi_P} {v : Int32} {x' : rd_X} (O : Ob h b f r s q pa pb p p2 v) (hr : r'.1 ≤ 384) (hs : s'.1 ≤ 384) (hp : pi_bd p') (ho : pi_ok p') : Ob (rr_up h pb (pb + 1) (pb + 2) (pb + 3) (pb + 4) x' f' r' s' q p') b f' r' s' q pa pb p p' v := by
  have oz := O.z
  obtain ⟨o0, B, C, P2, ow, ⟨w0, w1, w2, w3, w4, w5⟩, ok2, okb, opq⟩ := O
  have z2 : 17 ≤ pb ∧ 17 ≤ pb + 1 ∧ 17 ≤ pb + 2 ∧ 17 ≤ pb + 3 ∧ 17 ≤ pb + 4 := by omega
  have z1 : 17 ≤ pa ∧ 17 ≤ pa + 1 ∧ 17 ≤ pa + 2 ∧ 17 ≤ pa + 3 ∧ 17 ≤ pa + 4 := by omega
  have R0 : Rr (h.set 14 (rd_o (w0, w1, w2, 0))) b (w0, w1, w2, 0) f r s q pb (pb + 1) (pb + 2) (pb + 3) (pb + 4) p2 := ⟨⟨⟨mj_sN (by decide) B.1, mj_sN (by decide) B.2.1, B.2.2⟩, mj_sS w5⟩, (C.sw P2 z2 ok2).s14⟩
  have R1 := R0.up (x' := x') (f' := f') (r' := r') (s' := s') (q' := q) (p' := p') hr hs C.2.2.2.2.1 hp ho
  rw [rr_0 z2] at R1
  have e : ∀ {i : Nat}, pa ≤ i → i ≤ pa + 4 → (rr_up h pb (pb + 1) (pb + 2) (pb + 3) (pb + 4) x' f' r' s' q p')[i]? = h[i]? := fun h1 h2 => by
    unfold rr_up ps_up
    rw [List.getElem?_set_ne (by omega), pi_fr (by omega) (by omega) (by omega) (by omega) (by omega), cf_fr (by omega)]
  have P := C.1.1.2.2.1
  have Pa : Pi (rr_up h pb (pb + 1) (pb + 2) (pb + 3) (pb + 4) x' f' r' s' q p') pa (pa + 1) (pa + 2) (pa + 3) (pa + 4) p := ⟨(e (by omega) (by omega)).trans P.1, (e (by omega) (by omega)).trans P.2.1, (e (by omega) (by omega)).trans P.2.2.1, (e (by omega) (by omega)).trans P.2.2.2.1, (e (by omega) (by omega)).trans P.2.2.2.2.1, P.2.2.2.2.2⟩
  exact ⟨(rr_fr z2 (by omega)).trans o0, R1.1.1, R1.2.sw Pa z1 C.1.1.2.2.2.2, R1.2.1.1.2.2.1, (rr_fr z2 (by omega)).trans ow, ⟨x'.1, x'.2.1, x'.2.2.1, 1, nI x'.2.2.2, R1.1.2⟩, ho, okb, opq⟩
theorem rd_all_in {b : by_B} {x : rd_X} {f : Nat → Int32} {r s : by_B} {p : pi_P} (hb : by_ok b) (hl : b.1 ≤ 1500) (hx : x.2.2.2 ≤ b.1) (hp : pi_bd p) (ho : pi_ok p) (hr : r.1 ≤ 384) (hs : s.1 ≤ 384) : (rd_all b x f r s p).2.2.2.1.1 ≤ 384 ∧ (rd_all b x f r s p).2.2.2.2.1.1 ≤ 384 ∧ pi_bd (rd_all b x f r s p).2.2.2.2.2 ∧ pi_ok (rd_all b x f r s p).2.2.2.2.2 := by
  obtain ⟨a1, a2, a3, _⟩ := rd_hd_in hb hl hx hp ho
  obtain ⟨b1, b2, b3, _⟩ := rd_chs_in hb hl a3 a1 a2
  have c1 := rd_tab_in (b := b) (p := (rd_chs b (rd_hd b p x).2.2 (rd_hd b p x).2.1).2.2) b3
  unfold rd_all
  split
  · split
    · split
      · have d := rd_lc_in hl (rd_chs b (rd_hd b p x).2.2 (rd_hd b p x).2.1).2.2.2.1 (rf_ln (rd_tab b (rd_chs b (rd_hd b p x).2.2 (rd_hd b p x).2.1).2.2 (rd_chs b (rd_hd b p x).2.2 (rd_hd b p x).2.1).2.1).2.2.2.1) (rd_chs b (rd_hd b p x).2.2 (rd_hd b p x).2.1).2.2.2.1 0 (rd_tab b (rd_chs b (rd_hd b p x).2.2 (rd_hd b p x).2.1).2.2 (rd_chs b (rd_hd b p x).2.2 (rd_hd b p x).2.1).2.1).2 f r s (rd_chs b (rd_hd b p x).2.2 (rd_hd b p x).2.1).2.2 c1.1 hr hs
        have e := d.2.2.2.2
        unfold rd_fin
        split
        · split
          · exact ⟨d.2.2.1, d.2.2.2.1, e.bd b1, e.ok b2⟩
          · exact ⟨d.2.2.1, d.2.2.2.1, e.bd b1, e.ok b2⟩
        · exact ⟨d.2.2.1, d.2.2.2.1, e.bd b1, e.ok b2⟩
      · exact ⟨hr, hs, b1, b2⟩
    · exact ⟨hr, hs, b1, b2⟩
  · exact ⟨hr, hs, a1, a2⟩
theorem by_ok_mg : ∀ (j k : Nat) (b : by_B), by_ok b → by_ok (wr_mg j k b)
  | 0, _, _, h => h
  | j + 1, _, _, h => by_ok_mg j _ _ (by_ok_add _ h)
theorem by_ok_ch (p : pi_P) : ∀ (j c : Nat) (b : by_B), by_ok b → by_ok (wr_ch p j c b)
  | 0, _, _, h => h
  | j + 1, _, _, h => by_ok_ch p j _ _ (by_ok_add _ (by_ok_add _ (by_ok_add _ h)))
theorem by_ok_lp (p : pi_P) (k T : Nat) : ∀ (j i : Nat) (x : wr_X), by_ok x.1 → by_ok (wr_lp p k T j i x).1
  | 0, _, _, h => h
  | j + 1, _, x, h => by_ok_lp p k T j _ _ (by_ok_addP _ _ _ _ _ (by_ok_addN _ _ _ _ _ (by_ok_add _ (by_ok_chg _ _ (by_ok_chg _ _ h)))))
theorem by_ok_wr (p : pi_P) (k : Nat) (x : wr_X) : by_ok (wr_wr p k x).1 := by_ok_lp _ _ _ _ _ _ (by_ok_addN _ _ _ _ _ (by_ok_ch _ _ _ _ (by_ok_add _ (by_ok_add _ (by_ok_add _ (by_ok_add _ (by_ok_add _ (by_ok_mg _ _ _ (by_ok_0 _ _)))))))))
theorem wr_wr_in (p : pi_P) (k : Nat) (x : wr_X) (h : wr_in x) : wr_in (wr_wr p k x) := wr_lp_in _ _ _ _ _ _ ⟨by_addN_le _ _ _ _ (wr_hd_le _ _ _ (Nat.zero_le _)), h.2⟩
def MoAt (H : mj_H) (g : mo_G) : Prop := mo_up H g = H ∧ 41 < H.length
theorem MoAt.set {H : mj_H} {g : mo_G} {i : Nat} {c : mj_C} (M : MoAt H g) (hi : i < 27) : MoAt (H.set i c) g := by
  refine ⟨?_, by rw [List.length_set]; exact M.2⟩
  have e : H.set i c = (H.take 27 ++ mo_tl H g).set i c := congrArg (fun z => z.set i c) (M.1.symm : H = mo_up H g)
  have l : (H.take 27).length = 27 := by rw [List.length_take]; have := M.2; omega
  rw [List.set_append_left _ _ (by omega)] at e
  have d : (H.set i c).drop 40 = H.drop 40 := by rw [List.drop_set_of_lt (by omega)]
  have t : (H.set i c).take 27 = (H.take 27).set i c := by rw [List.take_set]
  show (H.set i c).take 27 ++ mo_tl (H.set i c) g = _
  have m : mo_tl (H.set i c) g = mo_tl H g := by
    unfold mo_tl
    rw [d]
  rw [t, m]
  exact e.symm
theorem MoAt.push {H : mj_H} {g : mo_G} {c : mj_C} (M : MoAt H g) : MoAt (H ++ [c]) g := by
  have l := M.2
  refine ⟨?_, by rw [List.length_append]; omega⟩
  show (H ++ [c]).take 27 ++ mo_tl (H ++ [c]) g = _
  have e : H ++ [c] = H.take 27 ++ mo_tl H g ++ [c] := congrArg (fun z => z ++ [c]) (M.1.symm : H = mo_up H g)
  have t : (H ++ [c]).take 27 = H.take 27 := List.take_append_of_le_length (by omega)
  have d : (H ++ [c]).drop 40 = H.drop 40 ++ [c] := List.drop_append_of_le_length (by omega)
  have m : mo_tl (H ++ [c]) g = mo_tl H g ++ [c] := by
    unfold mo_tl
    rw [d]
    rfl
  rw [t, m, e, List.append_assoc]
theorem MoAt.up {H : mj_H} {g : mo_G} (M : MoAt H g) (g' : mo_G) : MoAt (mo_up H g') g' ∧ (∀ i, i < 27 → (mo_up H g')[i]? = H[i]?) ∧ ∀ i, 40 ≤ i → (mo_up H g')[i]? = H[i]? := by
  have l := M.2
  have lt : (H.take 27).length = 27 := by rw [List.length_take]; omega
  have ln : (mo_up H g').length = H.length := by
    unfold mo_up mo_tl
    simp only [List.length_append, List.length_cons, List.length_drop, List.length_take]
    omega
  have e1 : (mo_up H g').take 27 = H.take 27 := by
    unfold mo_up
    rw [List.take_append_of_le_length (by omega), List.take_of_length_le (by omega)]
  have e2 : (mo_up H g').drop 40 = H.drop 40 := by
    unfold mo_up
    rw [List.drop_append, List.drop_eq_nil_of_le (by omega), lt]
    rfl
  refine ⟨⟨?_, by omega⟩, fun i hi => ?_, fun i hi => ?_⟩
  · show (mo_up H g').take 27 ++ mo_tl (mo_up H g') g' = _
    rw [e1]
    unfold mo_tl
    rw [e2]
    rfl
  · have := congrArg (fun z => z[i]?) e1
    simp only [List.getElem?_take_of_lt hi] at this
    exact this
  · have := congrArg (fun z => z[i - 40]?) e2
    simp only [List.getElem?_drop] at this
    rw [show 40 + (i - 40) = i by omega] at this
    exact this
