/-! the law's invariant; what an arm of its switch needs -/
theorem mo_fr {H : mj_H} (hl : 41 < H.length) (g : mo_G) : (mo_up H g).length = H.length ∧ (∀ i, i < 27 → (mo_up H g)[i]? = H[i]?) ∧ ∀ i, 40 ≤ i → (mo_up H g)[i]? = H[i]? := by
  have lt : (H.take 27).length = 27 := by rw [List.length_take]; omega
  have ln : (mo_up H g).length = H.length := by
    unfold mo_up mo_tl
    simp only [List.length_append, List.length_cons, List.length_drop, List.length_take]
    omega
  have e1 : (mo_up H g).take 27 = H.take 27 := by
    unfold mo_up
    rw [List.take_append_of_le_length (by omega), List.take_of_length_le (by omega)]
  have e2 : (mo_up H g).drop 40 = H.drop 40 := by
    unfold mo_up
    rw [List.drop_append, List.drop_eq_nil_of_le (by omega), lt]
    rfl
  refine ⟨ln, fun i hi => ?_, fun i hi => ?_⟩
  · have := congrArg (fun z => z[i]?) e1
    simp only [List.getElem?_take_of_lt hi] at this
    exact this
  · have := congrArg (fun z => z[i - 40]?) e2
    simp only [List.getElem?_drop] at this
    rw [show 40 + (i - 40) = i by omega] at this
    exact this
theorem mo_mid {H H' : mj_H} (hl : 41 < H.length) (hl' : 41 < H'.length) (g : mo_G) : ∀ i, 27 ≤ i → i < 40 → (mo_up H g)[i]? = (mo_up H' g)[i]? := by
  intro i h1 h2
  have e : ∀ X : mj_H, 41 < X.length → (mo_up X g)[i]? = (mo_tl X g)[i - 27]? := fun X hX => by
    have := mo_gt (h := X) (by omega) (mo_tl X g) (i - 27)
    rw [show 27 + (i - 27) = i by omega] at this
    exact this
  rw [e H hl, e H' hl']
  have hj : i - 27 < 13 := by omega
  generalize i - 27 = j at hj
  have : j = 0 ∨ j = 1 ∨ j = 2 ∨ j = 3 ∨ j = 4 ∨ j = 5 ∨ j = 6 ∨ j = 7 ∨ j = 8 ∨ j = 9 ∨ j = 10 ∨ j = 11 ∨ j = 12 := by omega
  rcases this with q | q | q | q | q | q | q | q | q | q | q | q | q <;> subst q <;> rfl
theorem MoAt.loc {H H' : mj_H} {g : mo_G} (M : MoAt H g) (hl : 41 < H'.length) (e : ∀ i, 27 ≤ i → i < 40 → H'[i]? = H[i]?) : MoAt H' g := by
  refine ⟨List.ext_getElem? fun i => ?_, hl⟩
  obtain ⟨-, a1, a2⟩ := mo_fr hl g
  by_cases h1 : i < 27
  · exact a1 i h1
  · by_cases h2 : 40 ≤ i
    · exact a2 i h2
    · rw [mo_mid hl M.2 g i (by omega) (by omega), M.1, e i (by omega) (by omega)]
/-- only cells below 27 differ -/
def Lo (H h : mj_H) : Prop := h.length = H.length ∧ ∀ i, 27 ≤ i → h[i]? = H[i]?
theorem Lo.rf (H : mj_H) : Lo H H := ⟨rfl, fun _ _ => rfl⟩
theorem Lo.set {H h : mj_H} (L : Lo H h) {i : Nat} (c : mj_C) (hi : i < 27) : Lo H (h.set i c) := ⟨by rw [List.length_set]; exact L.1, fun j hj => by rw [List.getElem?_set_ne (by omega)]; exact L.2 j hj⟩
theorem Lo.mo {H h : mj_H} {g : mo_G} (L : Lo H h) (M : MoAt H g) : MoAt h g := M.loc (by rw [L.1]; exact M.2) (fun i h1 _ => L.2 i h1)
theorem Lo.pi {H h : mj_H} (L : Lo H h) {a : Nat} (ha : a ≤ 22) (p : pi_P) : Lo H (ob_up h a p) := by
  unfold ob_up pi_up
  exact ((((L.set _ (by omega)).set _ (by omega)).set _ (by omega)).set _ (by omega)).set _ (by omega)
theorem Lo.by {H h : mj_H} (L : Lo H h) {a c n : Nat} (ha : a < 27) (hc : c < 27) (b : by_B) : Lo H (by_up h a c n b) := (L.set _ ha).set _ hc
def h4 (H : mj_H) : Prop := (∃ w : Nat → Int64, H[40]? = some (.inl (1, .inr (.inl w)))) ∧ ∃ w : Nat → UInt64, H[41]? = some (.inl (1, .inr (.inr (.inr (.inl w)))))
def LI (H : mj_H) : Prop := ∃ (b : by_B) (f : Nat → Int32) (r s q : by_B) (pa pb : Nat) (p p2 : pi_P) (v : Int32) (g : mo_G), Ob H b f r s q pa pb p p2 v ∧ MoAt H g ∧ RL g b p v ∧ h4 H
/-- an arm of the switch with whole numbers; with doubles -/
def ArI (M1 M2 : mj_M) (d1 d2 : mj_D) (As : List Value) (H : mj_H) : Prop := ∃ (k x : Int32) (F : Nat → Int64) (H1 H2 : mj_H), mj_Met M1 d1 1 6 (.ref 0 :: (As ++ [.ref 40])) H (mj_q (some (.int k)) H1) ∧ (∃ fs, H1[27]? = some (.inr (8, fs))) ∧ mj_Met M2 d2 0 0 (.ref 27 :: As) H1 (mj_q (some (.int x)) H2) ∧ (∃ fs, H2[27]? = some (.inr (8, fs))) ∧ mj_Met M_Mo_thrown (0, 0, none) 0 0 [.ref 27] H2 (mj_q (some (.int k)) H2) ∧ H2[40]? = some (.inl (1, .inr (.inl F))) ∧ (k = 0 → F 0 = x.toInt64) ∧ LI H2
def ArD (M1 M2 : mj_M) (d1 d2 : mj_D) (As : List Value) (H : mj_H) : Prop := ∃ (k : Int32) (x : UInt64) (F : Nat → UInt64) (H1 H2 : mj_H), mj_Met M1 d1 1 6 (.ref 0 :: (As ++ [.ref 41])) H (mj_q (some (.int k)) H1) ∧ (∃ fs, H1[27]? = some (.inr (8, fs))) ∧ mj_Met M2 d2 0 0 (.ref 27 :: As) H1 (mj_q (some (.double x)) H2) ∧ (∃ fs, H2[27]? = some (.inr (8, fs))) ∧ mj_Met M_Mo_thrown (0, 0, none) 0 0 [.ref 27] H2 (mj_q (some (.int k)) H2) ∧ H2[41]? = some (.inl (1, .inr (.inr (.inr (.inl F))))) ∧ (k = 0 → F 0 = x) ∧ LI H2
section Arms
variable {M1 M2 : mj_M} {d1 d2 : mj_D} {As : List Value} {H H1 h1 : mj_H} {g g' : mo_G} {b : by_B} {f : Nat → Int32} {r s q : by_B} {pa pb : Nat} {p p2 : pi_P} {v : Int32}
theorem MoAt.c27 (M : MoAt H g) : ∃ fs, H[27]? = some (.inr (8, fs)) := ⟨_, by have := mo_h (h := H) (g := g) (by have := M.2; omega); rw [M.1] at this; exact this⟩
theorem tm_th (M : MoAt H g) : mj_Met M_Mo_thrown (0, 0, none) 0 0 [.ref 27] H (mj_q (some (.int (g.1 5))) H) := by
  have h := tm_thrown (h := H) (g := g) (r := (g.1 5, g)) (by have := M.2; omega) rfl
  rw [M.1] at h
  exact h
theorem LI.mk (Mo : MoAt H1 g) (O : Ob H1 b f r s q pa pb p p2 v) (h4' : h4 H1) (R : RL g' b p v) : MoAt (mo_up H1 g') g' ∧ LI (mo_up H1 g') := by
  obtain ⟨u1, u2, u3⟩ := Mo.up g'
  exact ⟨u1, b, f, r, s, q, pa, pb, p, p2, v, g', O.loc u2, u1, R, by
    obtain ⟨⟨w, hw⟩, w', hw'⟩ := h4'
    exact ⟨⟨w, (u3 40 (by omega)).trans hw⟩, w', (u3 41 (by omega)).trans hw'⟩⟩
theorem ArI.mk {k x : Int32} {F : Nat → Int64} (hW : mj_Met M1 d1 1 6 (.ref 0 :: (As ++ [.ref 40])) H (mj_q (some (.int k)) H1)) (O : Ob H1 b f r s q pa pb p p2 v) (Mo : MoAt H1 g) (h40 : H1[40]? = some (.inl (1, .inr (.inl F)))) (h41 : ∃ w : Nat → UInt64, H1[41]? = some (.inl (1, .inr (.inr (.inr (.inl w))))))
    (hM : mj_Met M2 d2 0 0 (.ref 27 :: As) (mo_up H1 g) (mj_q (some (.int x)) (mo_up H1 g'))) (hk : g'.1 5 = k) (hv : k = 0 → F 0 = x.toInt64) (R : RL g' b p v) : ArI M1 M2 d1 d2 As H := by
  obtain ⟨m2, li⟩ := LI.mk (g' := g') Mo O ⟨⟨F, h40⟩, h41⟩ R
  rw [Mo.1] at hM
  have ht := tm_th m2
  rw [hk] at ht
  exact ⟨k, x, F, H1, mo_up H1 g', hW, Mo.c27, hM, m2.c27, ht, ((Mo.up g').2.2 40 (by omega)).trans h40, hv, li⟩
theorem ArD.mk {k : Int32} {x : UInt64} {F : Nat → UInt64} (hW : mj_Met M1 d1 1 6 (.ref 0 :: (As ++ [.ref 41])) H (mj_q (some (.int k)) H1)) (O : Ob H1 b f r s q pa pb p p2 v) (Mo : MoAt H1 g) (h40 : ∃ w : Nat → Int64, H1[40]? = some (.inl (1, .inr (.inl w)))) (h41 : H1[41]? = some (.inl (1, .inr (.inr (.inr (.inl F))))))
    (hM : mj_Met M2 d2 0 0 (.ref 27 :: As) (mo_up H1 g) (mj_q (some (.double x)) (mo_up H1 g'))) (hk : g'.1 5 = k) (hv : k = 0 → F 0 = x) (R : RL g' b p v) : ArD M1 M2 d1 d2 As H := by
  obtain ⟨m2, li⟩ := LI.mk (g' := g') Mo O ⟨h40, F, h41⟩ R
  rw [Mo.1] at hM
  have ht := tm_th m2
  rw [hk] at ht
  exact ⟨k, x, F, H1, mo_up H1 g', hW, Mo.c27, hM, m2.c27, ht, ((Mo.up g').2.2 41 (by omega)).trans h41, hv, li⟩
theorem ArI.ok {x : Int32} (hq : ∀ F : Nat → Int64, h1[40]? = some (.inl (1, .inr (.inl F))) → mj_Met M1 d1 1 6 (.ref 0 :: (As ++ [.ref 40])) H (mj_q (some (.int 0)) (h1.set 40 (.inl (1, .inr (.inl (vp_updL F 0 x.toInt64))))))) (L : Lo H h1) (h4' : h4 H) (Mo : MoAt H g) (O : Ob h1 b f r s q pa pb p p2 v)
    (hM : ∀ h : mj_H, 39 < h.length → mj_Met M2 d2 0 0 (.ref 27 :: As) (mo_up h g) (mj_q (some (.int x)) (mo_up h g'))) (h5 : g'.1 5 = 0) (R : RL g' b p v) : ArI M1 M2 d1 d2 As H := by
  obtain ⟨⟨w, hw⟩, w', hw'⟩ := h4'
  have e40 := (L.2 40 (by omega)).trans hw
  have M1' := L.mo Mo
  refine ArI.mk (k := 0) (x := x) (g := g) (g' := g') (F := vp_updL w 0 x.toInt64) (hq w e40) (O.loc fun i hi => List.getElem?_set_ne (by omega)) (M1'.loc (by rw [List.length_set]; exact M1'.2) fun i _ h2 => List.getElem?_set_ne (by omega)) (mj_sS e40) ⟨w', by rw [List.getElem?_set_ne (by omega)]; exact (L.2 41 (by omega)).trans hw'⟩ (hM _ (by rw [List.length_set]; have := M1'.2; omega)) h5 (fun _ => rfl) R
theorem ArI.th {k x : Int32} {ci : Nat} (hk0 : ¬ k = 0) (hq : mj_Met M1 d1 1 6 (.ref 0 :: (As ++ [.ref 40])) H (mj_q (some (.int k)) (h1 ++ ([.inr (ci, [])] : mj_H)))) (L : Lo H h1) (h4' : h4 H) (Mo : MoAt H g) (O : Ob h1 b f r s q pa pb p p2 v)
    (hM : ∀ h : mj_H, 39 < h.length → mj_Met M2 d2 0 0 (.ref 27 :: As) (mo_up h g) (mj_q (some (.int x)) (mo_up h g'))) (h5 : g'.1 5 = k) (R : RL g' b p v) : ArI M1 M2 d1 d2 As H := by
  obtain ⟨⟨w, hw⟩, w', hw'⟩ := h4'
  have M1' := L.mo Mo
  have hl := M1'.2
  have hs : (h1 ++ ([.inr (ci, [])] : mj_H)).length = h1.length + 1 := by rw [List.length_append]; rfl
  have ha : ∀ i, i < 42 → (h1 ++ ([.inr (ci, [])] : mj_H))[i]? = h1[i]? := fun i hi => List.getElem?_append_left (by omega)
  exact ArI.mk (k := k) (x := x) (g := g) (g' := g') (F := w) hq (O.loc fun i hi => ha i (by omega)) (M1'.loc (by omega) fun i _ h2 => ha i (by omega)) ((ha 40 (by omega)).trans ((L.2 40 (by omega)).trans hw)) ⟨w', (ha 41 (by omega)).trans ((L.2 41 (by omega)).trans hw')⟩ (hM _ (by omega)) h5 (fun e => absurd e hk0) R
theorem ArD.ok {x : UInt64} (hq : ∀ F : Nat → UInt64, h1[41]? = some (.inl (1, .inr (.inr (.inr (.inl F))))) → mj_Met M1 d1 1 6 (.ref 0 :: (As ++ [.ref 41])) H (mj_q (some (.int 0)) (h1.set 41 (.inl (1, .inr (.inr (.inr (.inl (vf_upd F 0 x))))))))) (L : Lo H h1) (h4' : h4 H) (Mo : MoAt H g) (O : Ob h1 b f r s q pa pb p p2 v)
    (hM : ∀ h : mj_H, 39 < h.length → mj_Met M2 d2 0 0 (.ref 27 :: As) (mo_up h g) (mj_q (some (.double x)) (mo_up h g'))) (h5 : g'.1 5 = 0) (R : RL g' b p v) : ArD M1 M2 d1 d2 As H := by
  obtain ⟨⟨w, hw⟩, w', hw'⟩ := h4'
  have e41 := (L.2 41 (by omega)).trans hw'
  have M1' := L.mo Mo
  refine ArD.mk (k := 0) (x := x) (g := g) (g' := g') (F := vf_upd w' 0 x) (hq w' e41) (O.loc fun i hi => List.getElem?_set_ne (by omega)) (M1'.loc (by rw [List.length_set]; exact M1'.2) fun i _ h2 => List.getElem?_set_ne (by omega)) ⟨w, by rw [List.getElem?_set_ne (by omega)]; exact (L.2 40 (by omega)).trans hw⟩ (mj_sS e41) (hM _ (by rw [List.length_set]; have := M1'.2; omega)) h5 (fun _ => rfl) R
theorem ArD.th {k : Int32} {x : UInt64} {ci : Nat} (hk0 : ¬ k = 0) (hq : mj_Met M1 d1 1 6 (.ref 0 :: (As ++ [.ref 41])) H (mj_q (some (.int k)) (h1 ++ ([.inr (ci, [])] : mj_H)))) (L : Lo H h1) (h4' : h4 H) (Mo : MoAt H g) (O : Ob h1 b f r s q pa pb p p2 v)
    (hM : ∀ h : mj_H, 39 < h.length → mj_Met M2 d2 0 0 (.ref 27 :: As) (mo_up h g) (mj_q (some (.double x)) (mo_up h g'))) (h5 : g'.1 5 = k) (R : RL g' b p v) : ArD M1 M2 d1 d2 As H := by
  obtain ⟨⟨w, hw⟩, w', hw'⟩ := h4'
  have M1' := L.mo Mo
  have hl := M1'.2
  have hs : (h1 ++ ([.inr (ci, [])] : mj_H)).length = h1.length + 1 := by rw [List.length_append]; rfl
  have ha : ∀ i, i < 42 → (h1 ++ ([.inr (ci, [])] : mj_H))[i]? = h1[i]? := fun i hi => List.getElem?_append_left (by omega)
  exact ArD.mk (k := k) (x := x) (g := g) (g' := g') (F := w') hq (O.loc fun i hi => ha i (by omega)) (M1'.loc (by omega) fun i _ h2 => ha i (by omega)) ⟨w, (ha 40 (by omega)).trans ((L.2 40 (by omega)).trans hw)⟩ ((ha 41 (by omega)).trans ((L.2 41 (by omega)).trans hw')) (hM _ (by omega)) h5 (fun e => absurd e hk0) R
end Arms
