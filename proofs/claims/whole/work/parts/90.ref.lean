/-! the reference: its state (numbers, rows), its heap, and the small words of its functions -/
abbrev mo_G : Type := (Nat → Int32) × (Nat → Nat → Int32)
def mo_uA (A : Nat → Nat → Int32) (j : Nat) (f : Nat → Int32) : Nat → Nat → Int32 := fun i => if i = j then f else A i
def mo_fs (v : Nat → Int32) : List Value := [.int (v 0), .int (v 1), .int (v 2), .int (v 3), .int (v 4), .int (v 5), .ref 28, .ref 29, .ref 30, .ref 31, .ref 32, .ref 33, .ref 34, .ref 35, .ref 36, .ref 37, .ref 38, .ref 39, .int (v 6), .int (v 7), .int (v 8), .int (v 9), .int (v 10), .int (v 11), .int (v 12), .int (v 13), .int (v 14)]
def mo_tl (h : mj_H) (g : mo_G) : mj_H := (.inr (8, mo_fs g.1) :: .inl (3, .inl (g.2 0)) :: .inl (3, .inl (g.2 1)) :: .inl (3, .inl (g.2 2)) :: .inl (192, .inl (g.2 3)) :: .inl (1500, .inl (g.2 4)) :: .inl (3, .inl (g.2 5)) :: .inl (3, .inl (g.2 6)) :: .inl (3, .inl (g.2 7)) :: .inl (192, .inl (g.2 8)) :: .inl (800, .inl (g.2 9)) :: .inl (1700, .inl (g.2 10)) :: .inl (64, .inl (g.2 11)) :: h.drop 40)
def mo_up (h : mj_H) (g : mo_G) : mj_H := h.take 27 ++ mo_tl h g
theorem mo_gt {h : mj_H} (hl : 39 < h.length) (X : mj_H) (j : Nat) : (h.take 27 ++ X)[27 + j]? = X[j]? := by
  have e : (h.take 27).length = 27 := by rw [List.length_take]; omega
  rw [List.getElem?_append_right (by omega), e, Nat.add_sub_cancel_left]
theorem mo_st {h : mj_H} (hl : 39 < h.length) (X : mj_H) (j : Nat) (c : mj_C) : (h.take 27 ++ X).set (27 + j) c = h.take 27 ++ X.set j c := by
  have e : (h.take 27).length = 27 := by rw [List.length_take]; omega
  rw [List.set_append_right _ _ (by omega), e, Nat.add_sub_cancel_left]
noncomputable def og {α : Type} (p : Prop) (x : Option α) : Option α := @ite _ p (Classical.propDecidable p) x none
theorem og_t {α : Type} {p : Prop} {x : Option α} (hp : p) : og p x = x := by unfold og; exact if_pos hp
theorem og_1 {α : Type} {p : Prop} {x : Option α} {r : α} (hk : og p x = some r) : p := by
  unfold og at hk
  by_cases q : p
  · exact q
  · rw [if_neg q] at hk
    cases hk
theorem og_2 {α : Type} {p : Prop} {x : Option α} {r : α} (hk : og p x = some r) : x = some r := by
  rw [og_t (og_1 hk)] at hk
  exact hk
theorem og_pos {α : Type} {c : Prop} [Decidable c] {a b : Option α} {r : α} (hc : c) (hk : (if c then a else b) = some r) : a = some r := by
  rw [if_pos hc] at hk
  exact hk
theorem og_neg {α : Type} {c : Prop} [Decidable c] {a b : Option α} {r : α} (hc : ¬ c) (hk : (if c then a else b) = some r) : b = some r := by
  rw [if_neg hc] at hk
  exact hk
theorem og_b {α β : Type} {x : Option α} {f : α → Option β} {r : β} (hk : x.bind f = some r) : ∃ y, x = some y ∧ f y = some r := by
  cases x with
  | none => cases hk
  | some y => exact ⟨y, rfl, hk⟩
theorem mo_h {h : mj_H} {g : mo_G} (hl : 39 < h.length) : (mo_up h g)[27]? = some (.inr (8, mo_fs g.1)) := mo_gt hl _ 0
theorem mo_a0 {h : mj_H} {g : mo_G} (hl : 39 < h.length) : (mo_up h g)[28]? = some (.inl (3, .inl (g.2 0))) := mo_gt hl _ 1
theorem mo_a1 {h : mj_H} {g : mo_G} (hl : 39 < h.length) : (mo_up h g)[29]? = some (.inl (3, .inl (g.2 1))) := mo_gt hl _ 2
theorem mo_a2 {h : mj_H} {g : mo_G} (hl : 39 < h.length) : (mo_up h g)[30]? = some (.inl (3, .inl (g.2 2))) := mo_gt hl _ 3
theorem mo_a3 {h : mj_H} {g : mo_G} (hl : 39 < h.length) : (mo_up h g)[31]? = some (.inl (192, .inl (g.2 3))) := mo_gt hl _ 4
theorem mo_a4 {h : mj_H} {g : mo_G} (hl : 39 < h.length) : (mo_up h g)[32]? = some (.inl (1500, .inl (g.2 4))) := mo_gt hl _ 5
theorem mo_a5 {h : mj_H} {g : mo_G} (hl : 39 < h.length) : (mo_up h g)[33]? = some (.inl (3, .inl (g.2 5))) := mo_gt hl _ 6
theorem mo_a6 {h : mj_H} {g : mo_G} (hl : 39 < h.length) : (mo_up h g)[34]? = some (.inl (3, .inl (g.2 6))) := mo_gt hl _ 7
theorem mo_a7 {h : mj_H} {g : mo_G} (hl : 39 < h.length) : (mo_up h g)[35]? = some (.inl (3, .inl (g.2 7))) := mo_gt hl _ 8
theorem mo_a8 {h : mj_H} {g : mo_G} (hl : 39 < h.length) : (mo_up h g)[36]? = some (.inl (192, .inl (g.2 8))) := mo_gt hl _ 9
theorem mo_a9 {h : mj_H} {g : mo_G} (hl : 39 < h.length) : (mo_up h g)[37]? = some (.inl (800, .inl (g.2 9))) := mo_gt hl _ 10
theorem mo_a10 {h : mj_H} {g : mo_G} (hl : 39 < h.length) : (mo_up h g)[38]? = some (.inl (1700, .inl (g.2 10))) := mo_gt hl _ 11
theorem mo_a11 {h : mj_H} {g : mo_G} (hl : 39 < h.length) : (mo_up h g)[39]? = some (.inl (64, .inl (g.2 11))) := mo_gt hl _ 12
theorem mo_p0 {h : mj_H} {g : mo_G} (hl : 39 < h.length) (x : Int32) : mo_up h (upd g.1 0 x, g.2) = (mo_up h g).set 27 (.inr (8, (mo_fs g.1).set 0 (.int x))) := by
  show _ = (List.take 27 h ++ mo_tl h g).set (27 + 0) _
  rw [mo_st hl]
  rfl
theorem mo_p1 {h : mj_H} {g : mo_G} (hl : 39 < h.length) (x : Int32) : mo_up h (upd g.1 1 x, g.2) = (mo_up h g).set 27 (.inr (8, (mo_fs g.1).set 1 (.int x))) := by
  show _ = (List.take 27 h ++ mo_tl h g).set (27 + 0) _
  rw [mo_st hl]
  rfl
theorem mo_p2 {h : mj_H} {g : mo_G} (hl : 39 < h.length) (x : Int32) : mo_up h (upd g.1 2 x, g.2) = (mo_up h g).set 27 (.inr (8, (mo_fs g.1).set 2 (.int x))) := by
  show _ = (List.take 27 h ++ mo_tl h g).set (27 + 0) _
  rw [mo_st hl]
  rfl
theorem mo_p3 {h : mj_H} {g : mo_G} (hl : 39 < h.length) (x : Int32) : mo_up h (upd g.1 3 x, g.2) = (mo_up h g).set 27 (.inr (8, (mo_fs g.1).set 3 (.int x))) := by
  show _ = (List.take 27 h ++ mo_tl h g).set (27 + 0) _
  rw [mo_st hl]
  rfl
theorem mo_p4 {h : mj_H} {g : mo_G} (hl : 39 < h.length) (x : Int32) : mo_up h (upd g.1 4 x, g.2) = (mo_up h g).set 27 (.inr (8, (mo_fs g.1).set 4 (.int x))) := by
  show _ = (List.take 27 h ++ mo_tl h g).set (27 + 0) _
  rw [mo_st hl]
  rfl
theorem mo_p5 {h : mj_H} {g : mo_G} (hl : 39 < h.length) (x : Int32) : mo_up h (upd g.1 5 x, g.2) = (mo_up h g).set 27 (.inr (8, (mo_fs g.1).set 5 (.int x))) := by
  show _ = (List.take 27 h ++ mo_tl h g).set (27 + 0) _
  rw [mo_st hl]
  rfl
theorem mo_p6 {h : mj_H} {g : mo_G} (hl : 39 < h.length) (x : Int32) : mo_up h (upd g.1 6 x, g.2) = (mo_up h g).set 27 (.inr (8, (mo_fs g.1).set 18 (.int x))) := by
  show _ = (List.take 27 h ++ mo_tl h g).set (27 + 0) _
  rw [mo_st hl]
  rfl
theorem mo_p7 {h : mj_H} {g : mo_G} (hl : 39 < h.length) (x : Int32) : mo_up h (upd g.1 7 x, g.2) = (mo_up h g).set 27 (.inr (8, (mo_fs g.1).set 19 (.int x))) := by
  show _ = (List.take 27 h ++ mo_tl h g).set (27 + 0) _
  rw [mo_st hl]
  rfl
theorem mo_p8 {h : mj_H} {g : mo_G} (hl : 39 < h.length) (x : Int32) : mo_up h (upd g.1 8 x, g.2) = (mo_up h g).set 27 (.inr (8, (mo_fs g.1).set 20 (.int x))) := by
  show _ = (List.take 27 h ++ mo_tl h g).set (27 + 0) _
  rw [mo_st hl]
  rfl
theorem mo_p9 {h : mj_H} {g : mo_G} (hl : 39 < h.length) (x : Int32) : mo_up h (upd g.1 9 x, g.2) = (mo_up h g).set 27 (.inr (8, (mo_fs g.1).set 21 (.int x))) := by
  show _ = (List.take 27 h ++ mo_tl h g).set (27 + 0) _
  rw [mo_st hl]
  rfl
theorem mo_p10 {h : mj_H} {g : mo_G} (hl : 39 < h.length) (x : Int32) : mo_up h (upd g.1 10 x, g.2) = (mo_up h g).set 27 (.inr (8, (mo_fs g.1).set 22 (.int x))) := by
  show _ = (List.take 27 h ++ mo_tl h g).set (27 + 0) _
  rw [mo_st hl]
  rfl
theorem mo_p11 {h : mj_H} {g : mo_G} (hl : 39 < h.length) (x : Int32) : mo_up h (upd g.1 11 x, g.2) = (mo_up h g).set 27 (.inr (8, (mo_fs g.1).set 23 (.int x))) := by
  show _ = (List.take 27 h ++ mo_tl h g).set (27 + 0) _
  rw [mo_st hl]
  rfl
theorem mo_p12 {h : mj_H} {g : mo_G} (hl : 39 < h.length) (x : Int32) : mo_up h (upd g.1 12 x, g.2) = (mo_up h g).set 27 (.inr (8, (mo_fs g.1).set 24 (.int x))) := by
  show _ = (List.take 27 h ++ mo_tl h g).set (27 + 0) _
  rw [mo_st hl]
  rfl
theorem mo_p13 {h : mj_H} {g : mo_G} (hl : 39 < h.length) (x : Int32) : mo_up h (upd g.1 13 x, g.2) = (mo_up h g).set 27 (.inr (8, (mo_fs g.1).set 25 (.int x))) := by
  show _ = (List.take 27 h ++ mo_tl h g).set (27 + 0) _
  rw [mo_st hl]
  rfl
theorem mo_p14 {h : mj_H} {g : mo_G} (hl : 39 < h.length) (x : Int32) : mo_up h (upd g.1 14 x, g.2) = (mo_up h g).set 27 (.inr (8, (mo_fs g.1).set 26 (.int x))) := by
  show _ = (List.take 27 h ++ mo_tl h g).set (27 + 0) _
  rw [mo_st hl]
  rfl
theorem mo_b0 {h : mj_H} {g : mo_G} (hl : 39 < h.length) (f : Nat → Int32) : mo_up h (g.1, mo_uA g.2 0 f) = (mo_up h g).set 28 (.inl (3, .inl f)) := by
  show _ = (List.take 27 h ++ mo_tl h g).set (27 + 1) _
  rw [mo_st hl]
  rfl
theorem mo_b1 {h : mj_H} {g : mo_G} (hl : 39 < h.length) (f : Nat → Int32) : mo_up h (g.1, mo_uA g.2 1 f) = (mo_up h g).set 29 (.inl (3, .inl f)) := by
  show _ = (List.take 27 h ++ mo_tl h g).set (27 + 2) _
  rw [mo_st hl]
  rfl
theorem mo_b2 {h : mj_H} {g : mo_G} (hl : 39 < h.length) (f : Nat → Int32) : mo_up h (g.1, mo_uA g.2 2 f) = (mo_up h g).set 30 (.inl (3, .inl f)) := by
  show _ = (List.take 27 h ++ mo_tl h g).set (27 + 3) _
  rw [mo_st hl]
  rfl
theorem mo_b3 {h : mj_H} {g : mo_G} (hl : 39 < h.length) (f : Nat → Int32) : mo_up h (g.1, mo_uA g.2 3 f) = (mo_up h g).set 31 (.inl (192, .inl f)) := by
  show _ = (List.take 27 h ++ mo_tl h g).set (27 + 4) _
  rw [mo_st hl]
  rfl
theorem mo_b4 {h : mj_H} {g : mo_G} (hl : 39 < h.length) (f : Nat → Int32) : mo_up h (g.1, mo_uA g.2 4 f) = (mo_up h g).set 32 (.inl (1500, .inl f)) := by
  show _ = (List.take 27 h ++ mo_tl h g).set (27 + 5) _
  rw [mo_st hl]
  rfl
theorem mo_b5 {h : mj_H} {g : mo_G} (hl : 39 < h.length) (f : Nat → Int32) : mo_up h (g.1, mo_uA g.2 5 f) = (mo_up h g).set 33 (.inl (3, .inl f)) := by
  show _ = (List.take 27 h ++ mo_tl h g).set (27 + 6) _
  rw [mo_st hl]
  rfl
theorem mo_b6 {h : mj_H} {g : mo_G} (hl : 39 < h.length) (f : Nat → Int32) : mo_up h (g.1, mo_uA g.2 6 f) = (mo_up h g).set 34 (.inl (3, .inl f)) := by
  show _ = (List.take 27 h ++ mo_tl h g).set (27 + 7) _
  rw [mo_st hl]
  rfl
theorem mo_b7 {h : mj_H} {g : mo_G} (hl : 39 < h.length) (f : Nat → Int32) : mo_up h (g.1, mo_uA g.2 7 f) = (mo_up h g).set 35 (.inl (3, .inl f)) := by
  show _ = (List.take 27 h ++ mo_tl h g).set (27 + 8) _
  rw [mo_st hl]
  rfl
theorem mo_b8 {h : mj_H} {g : mo_G} (hl : 39 < h.length) (f : Nat → Int32) : mo_up h (g.1, mo_uA g.2 8 f) = (mo_up h g).set 36 (.inl (192, .inl f)) := by
  show _ = (List.take 27 h ++ mo_tl h g).set (27 + 9) _
  rw [mo_st hl]
  rfl
theorem mo_b9 {h : mj_H} {g : mo_G} (hl : 39 < h.length) (f : Nat → Int32) : mo_up h (g.1, mo_uA g.2 9 f) = (mo_up h g).set 37 (.inl (800, .inl f)) := by
  show _ = (List.take 27 h ++ mo_tl h g).set (27 + 10) _
  rw [mo_st hl]
  rfl
theorem mo_b10 {h : mj_H} {g : mo_G} (hl : 39 < h.length) (f : Nat → Int32) : mo_up h (g.1, mo_uA g.2 10 f) = (mo_up h g).set 38 (.inl (1700, .inl f)) := by
  show _ = (List.take 27 h ++ mo_tl h g).set (27 + 11) _
  rw [mo_st hl]
  rfl
theorem mo_b11 {h : mj_H} {g : mo_G} (hl : 39 < h.length) (f : Nat → Int32) : mo_up h (g.1, mo_uA g.2 11 f) = (mo_up h g).set 39 (.inl (64, .inl f)) := by
  show _ = (List.take 27 h ++ mo_tl h g).set (27 + 12) _
  rw [mo_st hl]
  rfl
theorem mo_vI {M : mj_M} {Q : mj_E → mj_H → Prop} {d : mj_D} {kc ks pc : Nat} {L : List (Option Value)} {S : List Value} {h : mj_H} {g : mo_G} {x y : Int32} (e : x = y) (k : mj_W M Q d kc ks pc L (.int y :: S) (mo_up h g)) : mj_W M Q d kc ks pc L (.int x :: S) (mo_up h g) := e ▸ k
