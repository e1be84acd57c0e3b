def ON (p : pi_P) (lo hi q : Nat) : Prop := ∃ c x y, c < p.2.2.1 ∧ x < p.1 ∧ lo ≤ y ∧ y < hi ∧ (p.2.2.2.2.2.1 c = 1 ∨ (x % 2 = 0 ∧ y % 2 = 0)) ∧ q = 64 * c + 8 * y + x
def ch_ (p p' : pi_P) (lo hi : Nat) : Prop := pi_sm p p' ∧ ∀ q, ¬ ON p lo hi q → p'.2.2.2.2.2.2 q = p.2.2.2.2.2.2 q
set_option maxRecDepth 10000 in
set_option maxHeartbeats 2000000 in
theorem ch_.rfl {p : pi_P} {lo hi : Nat} : ch_ p p lo hi := ⟨pi_sm.rfl, fun _ _ => Eq.refl _⟩
set_option maxRecDepth 10000 in
set_option maxHeartbeats 2000000 in
theorem sm_ON {p p' : pi_P} (h : pi_sm p p') {lo hi q : Nat} : ON p' lo hi q ↔ ON p lo hi q := by
  unfold ON
  rw [h.1, h.2.2.1, h.2.2.2.2.2]
set_option maxRecDepth 10000 in
set_option maxHeartbeats 2000000 in
theorem ch_.trans {p p1 p2 : pi_P} {lo hi : Nat} (h : ch_ p p1 lo hi) (k : ch_ p1 p2 lo hi) : ch_ p p2 lo hi := ⟨h.1.trans k.1, fun q hq => (k.2 q (fun z => hq ((sm_ON h.1).mp z))).trans (h.2 q hq)⟩
set_option maxRecDepth 10000 in
set_option maxHeartbeats 2000000 in
theorem ch_.mono {p p' : pi_P} {lo hi lo' hi' : Nat} (h : ch_ p p' lo hi) (h1 : lo' ≤ lo) (h2 : hi ≤ hi') : ch_ p p' lo' hi' := ⟨h.1, fun q hq => h.2 q (fun ⟨c, x, y, a1, a2, a3, a4, a5, a6⟩ => hq ⟨c, x, y, a1, a2, by omega, by omega, a5, a6⟩)⟩
set_option maxRecDepth 10000 in
set_option maxHeartbeats 2000000 in
theorem ch_.put {p : pi_P} {c x y lo hi : Nat} {v : Int32} (h1 : c < p.2.2.1) (h2 : x < p.1) (h3 : lo ≤ y) (h4 : y < hi) (h5 : p.2.2.2.2.2.1 c = 1 ∨ (x % 2 = 0 ∧ y % 2 = 0)) : ch_ p (pi_put p c x y v) lo hi := ⟨pi_sm.put, fun q hq => by
  show upd p.2.2.2.2.2.2 (64 * c + 8 * y + x) v q = _
  exact ux_n (fun z => hq ⟨c, x, y, h1, h2, h3, h4, h5, z⟩)⟩
set_option maxRecDepth 10000 in
set_option maxHeartbeats 2000000 in
theorem st_on {p : pi_P} {c i : Nat} : p.2.2.2.2.2.1 c = 1 ∨ i * pi_st p c % 2 = 0 := by
  unfold pi_st
  by_cases q : p.2.2.2.2.2.1 c = 1
  · exact Or.inl q
  · rw [if_neg q]
    exact Or.inr (by omega)
set_option maxRecDepth 10000 in
set_option maxHeartbeats 2000000 in
theorem ch_ln (c y k : Nat) (df : Int32) : ∀ (j i : Nat) (bf : Int32) (r : by_B) (p : pi_P), GP p → c < p.2.2.1 → i + j = pi_on p c p.1 → (p.2.2.2.2.2.1 c = 1 ∨ y % 2 = 0) → ch_ p (tk_ln c y k df j i bf r p).2 y (y + 1) := by
  intro j
  induction j with
  | zero => intro i bf r p _ _ _ _; exact ch_.rfl
  | succ j ih =>
    intro i bf r p G hc hi hon
    have sm : pi_sm p (pi_put p c (i * pi_st p c) y (tk_v (rf_by (p.2.2.2.2.1 c) k) (tk_n (rf_by (p.2.2.2.2.1 c) k) df bf r))) := pi_sm.put
    refine ch_.trans (ch_.put hc (on_lt G hc (by omega)) (Nat.le_refl _) (by omega) ?_) (ih (i + 1) _ _ _ (pi_sm_GP sm G) hc (by rw [sm.on]; show i + 1 + j = pi_on p c p.1; omega) hon)
    rcases hon with q | q
    · exact Or.inl q
    · rcases st_on (p := p) (c := c) (i := i) with z | z
      · exact Or.inl z
      · exact Or.inr ⟨z, q⟩
set_option maxRecDepth 10000 in
set_option maxHeartbeats 2000000 in
theorem ch_lnC (y k : Nat) (df : Int32) : ∀ (j c : Nat) (r : by_B) (p : pi_P), GP p → c + j = p.2.2.1 → ch_ p (tk_lnC y k df j c (r, p)).2 y (y + 1) := by
  intro j
  induction j with
  | zero => intro c r p _ _; exact ch_.rfl
  | succ j ih =>
    intro c r p G hc
    unfold tk_lnC
    by_cases q : ((r, p) : by_B × pi_P).2.2.2.2.2.2.1 c = 1 ∨ y % 2 = 0
    · rw [if_pos q]
      have h1 := ch_ln c y k df (pi_on p c p.1) 0 0 r p G (by omega) (by omega) q
      refine h1.trans ?_
      exact ih (c + 1) _ _ (pi_sm_GP h1.1 G) (by rw [h1.1.2.2.1]; omega)
    · rw [if_neg q]
      exact ih (c + 1) r p G (by omega)
set_option maxRecDepth 10000 in
set_option maxHeartbeats 2000000 in
theorem ch_lnY (k : Nat) (df : Int32) : ∀ (j y : Nat) (r : by_B) (p : pi_P), GP p → ch_ p (tk_lnY k df j y (r, p)).2 y (y + j) := by
  intro j
  induction j with
  | zero => intro y r p _; exact ch_.rfl
  | succ j ih =>
    intro y r p G
    unfold tk_lnY
    have h1 := ch_lnC y k df p.2.2.1 0 r p G (by omega)
    refine (h1.mono (Nat.le_refl _) (by omega)).trans ?_
    exact (ih (y + 1) _ _ (pi_sm_GP h1.1 G)).mono (by omega) (by omega)
set_option maxRecDepth 10000 in
set_option maxHeartbeats 2000000 in
theorem ch_gx (f : Nat → Int32) (c y sh row : Nat) : ∀ (j i : Nat) (p : pi_P), GP p → c < p.2.2.1 → i + j = pi_on p c p.1 → y % 2 = 0 → ∀ sv, sv = pi_st p c → ch_ p (tg_x f c y sh sv row j i p) (y + row * sv) (y + row * sv + 1) := by
  intro j
  induction j with
  | zero => intro i p _ _ _ _ sv _; exact ch_.rfl
  | succ j ih =>
    intro i p G hc hi hy sv hsv
    unfold tg_x
    have sm : pi_sm p (pi_put p c (i * sv) (y + row * sv) (p.2.2.2.2.2.2 (64 * c + 8 * (y + row * sv) + i * sv) ||| (f (8 * row + i) <<< (nI sh &&& 31)))) := pi_sm.put
    refine ch_.trans (ch_.put hc (by rw [hsv]; exact on_lt G hc (by omega)) (Nat.le_refl _) (by omega) ?_) (ih (i + 1) _ (pi_sm_GP sm G) hc (by rw [sm.on]; show i + 1 + j = pi_on p c p.1; omega) hy sv (by rw [sm.st]; exact hsv))
    rw [hsv]
    unfold pi_st
    by_cases q : p.2.2.2.2.2.1 c = 1
    · exact Or.inl q
    · rw [if_neg q]
      exact Or.inr ⟨by omega, by omega⟩
set_option maxRecDepth 10000 in
set_option maxHeartbeats 2000000 in
theorem ch_gy (f : Nat → Int32) (c y sh nx : Nat) : ∀ (j row : Nat) (p : pi_P), GP p → c < p.2.2.1 → nx = pi_on p c p.1 → y % 2 = 0 → ∀ sv hi, sv = pi_st p c → (∀ r, r < row + j → y + r * sv < hi) → ch_ p (tg_y f c y sh sv nx j row p) y hi := by
  intro j
  induction j with
  | zero => intro i p _ _ _ _ sv hi _ _; exact ch_.rfl
  | succ j ih =>
    intro row p G hc hnx hy sv hi hsv hr
    unfold tg_y
    have h1 := ch_gx f c y sh row nx 0 p G hc (by omega) hy sv hsv
    refine (h1.mono (by omega) (by have := hr row (by omega); omega)).trans ?_
    exact ih (row + 1) _ (pi_sm_GP h1.1 G) (by rw [h1.1.2.2.1]; exact hc) (by rw [h1.1.on, h1.1.1]; exact hnx) hy sv hi (by rw [h1.1.st]; exact hsv) (fun r z => hr r (by omega))
