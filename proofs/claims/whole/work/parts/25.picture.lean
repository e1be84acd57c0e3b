abbrev pi_bad (p : pi_P) (c x y : Nat) : Prop := pi_hn p c x y ∧ sa_numb (p.2.2.2.2.1 c) (p.2.2.2.2.2.2 (64 * c + 8 * y + x)) = 0
def pi_okX (p : pi_P) (c y : Nat) : Nat → Nat → Bool
  | 0, _ => true
  | j + 1, x => if pi_bad p c x y then false else pi_okX p c y j (x + 1)
def pi_okC (p : pi_P) (y : Nat) : Nat → Nat → Bool
  | 0, _ => true
  | j + 1, c => pi_okX p c y p.1 0 && pi_okC p y j (c + 1)
def pi_okY (p : pi_P) : Nat → Nat → Bool
  | 0, _ => true
  | j + 1, y => pi_okC p y p.2.2.1 0 && pi_okY p j (y + 1)
def pi_okN (p : pi_P) (y k : Nat) : Bool := pi_okY p (pi_end p y k - y) y
set_option maxRecDepth 100000 in
set_option maxHeartbeats 4000000 in
theorem lp_Pi_hn_x {Q : mj_E → mj_H → Prop} {h : mj_H} {a l t s m : Nat} {p : pi_P} (P : Pi h a l t s m p) {f k e y c kc ks : Nat} (hc : c < p.2.2.1) (hy : y < p.2.1) : ∀ (j x : Nat), x + j = p.1 → (pi_okX p c y j x = true → mj_W M_Pi_holdsNumbers Q (2, 45, none) kc ks 84 [some (.ref a), some (.int (nI f)), some (.int (nI k)), some (.int (nI e)), some (.int (nI y)), some (.int (nI c)), some (.int (nI p.1))] [] h) → (pi_okX p c y j x = false → Q (.inl (some (.int 0))) h) → mj_W M_Pi_holdsNumbers Q (2, 45, none) kc ks 31 [some (.ref a), some (.int (nI f)), some (.int (nI k)), some (.int (nI e)), some (.int (nI y)), some (.int (nI c)), some (.int (nI x))] [] h := by
  intro j
  induction j with
  | zero =>
    intro x hx kk kf
    obtain ⟨h1, h2, h3, h4, h5, ⟨n1, n2, n3, n4, n5, n6⟩, w1, w2, w3⟩ := id P
    refine mj_iload d_Pi_holdsNumbers_31 rfl ?_
    refine mj_aload_n d_Pi_holdsNumbers_33 rfl ?_
    refine mj_get ok_Pi (k := 0) (by decide) fl_Pi_24 d_Pi_holdsNumbers_34 h1 rfl ?_
    refine mj_icmp_ge (tgt := 84) d_Pi_holdsNumbers_37 (by decide) (fun c_37 => ?_) (fun c_37 => ?_)
    · have e9 : x = p.1 := by omega
      subst e9
      exact kk rfl
    · exact absurd (nI_le (by omega) (by omega)) c_37
  | succ j ih =>
    intro x hx kk kf
    obtain ⟨h1, h2, h3, h4, h5, ⟨n1, n2, n3, n4, n5, n6⟩, w1, w2, w3⟩ := id P
    refine mj_iload d_Pi_holdsNumbers_31 rfl ?_
    refine mj_aload_n d_Pi_holdsNumbers_33 rfl ?_
    refine mj_get ok_Pi (k := 0) (by decide) fl_Pi_24 d_Pi_holdsNumbers_34 h1 rfl ?_
    refine mj_icmp_ge (tgt := 84) d_Pi_holdsNumbers_37 (by decide) (fun c_37 => ?_) (fun c_37 => ?_)
    · exact absurd c_37 (nI_ge (by omega) (by omega))
    · refine mj_aload_n d_Pi_holdsNumbers_40 rfl ?_
      refine mj_iload d_Pi_holdsNumbers_41 rfl ?_
      refine mj_iload d_Pi_holdsNumbers_43 rfl ?_
      refine mj_iload d_Pi_holdsNumbers_45 rfl ?_
      refine mj_cV (S := []) (S1 := [.int (if pi_hs p (nI c) (nI x) (nI y) then 1 else 0)]) (c_Pi_hasSample P (nI c) (nI x) (nI y)) d_Pi_holdsNumbers_47 cw_Pi_hasSample ml_Pi_62 im_Pi_hasSample se_Pi_hasSample rfl h1 (by decide) rfl (Nat.le_of_ble_eq_true rfl) rfl rfl ?_
      refine mj_if_eq (tgt := 78) d_Pi_holdsNumbers_50 (by decide) (fun c_50 => ?_) (fun c_50 => ?_)
      · obtain ⟨v1, e_v1⟩ : ∃ q_ : Int32, q_ = (nI x) + 1 := ⟨_, rfl⟩
        refine mj_iinc (x := (nI x)) (v := v1) (L' := [some (.ref a), some (.int (nI f)), some (.int (nI k)), some (.int (nI e)), some (.int (nI y)), some (.int (nI c)), some (.int v1)]) d_Pi_holdsNumbers_78 rfl (by rw [e_v1]; rfl) (by decide) rfl rfl ?_
        refine mj_goto (tgt := 31) d_Pi_holdsNumbers_81 (by decide) ?_
        rw [e_v1, nI_1]
        have g0 : ¬ pi_bad p c x y := fun q => by rw [if_pos ((pi_hsn (by omega) (by omega) (by omega)).mpr q.1)] at c_50; exact absurd c_50 (by decide)
        rw [show pi_okX p c y (j + 1) x = pi_okX p c y j (x + 1) by rw [pi_okX, if_neg g0]] at kk kf
        exact ih (x + 1) (by omega) kk kf
      · have g1 : pi_hn p c x y := (pi_hsn (by omega) (by omega) (by omega)).mp (Decidable.byContradiction (fun q => c_50 (by rw [if_neg q])))
        refine mj_aload_n d_Pi_holdsNumbers_53 rfl ?_
        refine mj_get ok_Pi (k := 4) (by decide) fl_Pi_15 d_Pi_holdsNumbers_54 h1 rfl ?_
        refine mj_iload d_Pi_holdsNumbers_57 rfl ?_
        refine mj_iald d_Pi_holdsNumbers_59 h3 (vp_in_nI (by omega) (by decide)) ?_
        refine mj_aload_n d_Pi_holdsNumbers_60 rfl ?_
        refine mj_iload d_Pi_holdsNumbers_61 rfl ?_
        refine mj_iload d_Pi_holdsNumbers_63 rfl ?_
        refine mj_iload d_Pi_holdsNumbers_65 rfl ?_
        refine mj_cV (S := [.int (p.2.2.2.2.1 ((nI c) : Int32).toNatClampNeg)]) (S1 := [.int (p.2.2.2.2.2.2 (64 * c + 8 * y + x)), .int (p.2.2.2.2.1 ((nI c) : Int32).toNatClampNeg)]) (c_Pi_at P (c := c) (x := x) (y := y) (by omega) (by omega) (by omega)) d_Pi_holdsNumbers_67 cw_Pi_at ml_Pi_48 im_Pi_at se_Pi_at rfl h1 (by decide) rfl (Nat.le_of_ble_eq_true rfl) rfl rfl ?_
        refine mj_cS (S := []) (S1 := [.int (sa_numb (p.2.2.2.2.1 (nI c).toNatClampNeg) (p.2.2.2.2.2.2 (64 * c + 8 * y + x)))]) (c_Sa_isNumber _ _) d_Pi_holdsNumbers_70 cw_Sa_isNumber ml_Pi_83 st_Sa_isNumber (by decide) rfl (Nat.le_of_ble_eq_true rfl) rfl rfl ?_
        refine mj_if_ne (tgt := 78) d_Pi_holdsNumbers_73 (by decide) (fun c_73 => ?_) (fun c_73 => ?_)
        · obtain ⟨v2, e_v2⟩ : ∃ q_ : Int32, q_ = (nI x) + 1 := ⟨_, rfl⟩
          refine mj_iinc (x := (nI x)) (v := v2) (L' := [some (.ref a), some (.int (nI f)), some (.int (nI k)), some (.int (nI e)), some (.int (nI y)), some (.int (nI c)), some (.int v2)]) d_Pi_holdsNumbers_78 rfl (by rw [e_v2]; rfl) (by decide) rfl rfl ?_
          refine mj_goto (tgt := 31) d_Pi_holdsNumbers_81 (by decide) ?_
          rw [e_v2, nI_1]
          rw [nI_clamp (by omega)] at c_73
          have g0 : ¬ pi_bad p c x y := fun q => c_73 q.2
          rw [show pi_okX p c y (j + 1) x = pi_okX p c y j (x + 1) by rw [pi_okX, if_neg g0]] at kk kf
          exact ih (x + 1) (by omega) kk kf
        · refine mj_iconst (v := 0) d_Pi_holdsNumbers_76 (by decide) ?_
          rw [nI_clamp (by omega)] at c_73
          exact mj_zret rfl (by decide) d_Pi_holdsNumbers_77 (kf (by rw [pi_okX, if_pos ⟨g1, c_73⟩]))
set_option maxRecDepth 100000 in
set_option maxHeartbeats 4000000 in
theorem lp_Pi_hn_c {Q : mj_E → mj_H → Prop} {h : mj_H} {a l t s m : Nat} {p : pi_P} (P : Pi h a l t s m p) {f k e y kc ks : Nat} (hy : y < p.2.1) : ∀ (j c : Nat), c + j = p.2.2.1 → (pi_okC p y j c = true → mj_W M_Pi_holdsNumbers Q (2, 45, none) kc ks 90 [some (.ref a), some (.int (nI f)), some (.int (nI k)), some (.int (nI e)), some (.int (nI y)), some (.int (nI p.2.2.1)), none] [] h) → (pi_okC p y j c = false → Q (.inl (some (.int 0))) h) → mj_W M_Pi_holdsNumbers Q (2, 45, none) kc ks 19 [some (.ref a), some (.int (nI f)), some (.int (nI k)), some (.int (nI e)), some (.int (nI y)), some (.int (nI c)), none] [] h := by
  intro j
  induction j with
  | zero =>
    intro c hc kk kf
    obtain ⟨h1, h2, h3, h4, h5, ⟨n1, n2, n3, n4, n5, n6⟩, w1, w2, w3⟩ := id P
    refine mj_iload d_Pi_holdsNumbers_19 rfl ?_
    refine mj_aload_n d_Pi_holdsNumbers_21 rfl ?_
    refine mj_get ok_Pi (k := 2) (by decide) fl_Pi_31 d_Pi_holdsNumbers_22 h1 rfl ?_
    refine mj_icmp_ge (tgt := 90) d_Pi_holdsNumbers_25 (by decide) (fun c_25 => ?_) (fun c_25 => ?_)
    · have e9 : c = p.2.2.1 := by omega
      subst e9
      exact kk rfl
    · exact absurd (nI_le (by omega) (by omega)) c_25
  | succ j ih =>
    intro c hc kk kf
    obtain ⟨h1, h2, h3, h4, h5, ⟨n1, n2, n3, n4, n5, n6⟩, w1, w2, w3⟩ := id P
    refine mj_iload d_Pi_holdsNumbers_19 rfl ?_
    refine mj_aload_n d_Pi_holdsNumbers_21 rfl ?_
    refine mj_get ok_Pi (k := 2) (by decide) fl_Pi_31 d_Pi_holdsNumbers_22 h1 rfl ?_
    refine mj_icmp_ge (tgt := 90) d_Pi_holdsNumbers_25 (by decide) (fun c_25 => ?_) (fun c_25 => ?_)
    · exact absurd c_25 (nI_ge (by omega) (by omega))
    · refine mj_iconst (v := 0) d_Pi_holdsNumbers_28 (by decide) ?_
      refine mj_istore (L' := [some (.ref a), some (.int (nI f)), some (.int (nI k)), some (.int (nI e)), some (.int (nI y)), some (.int (nI c)), some (.int 0)]) d_Pi_holdsNumbers_29 (by decide) rfl rfl ?_
      refine lp_Pi_hn_x P (by omega) hy p.1 0 (by omega) (fun g1 => ?_) (fun g1 => kf (by rw [pi_okC, g1]; rfl))
      obtain ⟨v1, e_v1⟩ : ∃ q_ : Int32, q_ = (nI c) + 1 := ⟨_, rfl⟩
      refine mj_iinc (x := (nI c)) (v := v1) (L' := [some (.ref a), some (.int (nI f)), some (.int (nI k)), some (.int (nI e)), some (.int (nI y)), some (.int v1), some (.int (nI p.1))]) d_Pi_holdsNumbers_84 rfl (by rw [e_v1]; rfl) (by decide) rfl rfl ?_
      refine mj_goto (tgt := 19) d_Pi_holdsNumbers_87 (by decide) ?_
      refine mj_fg 6 (L' := [some (.ref a), some (.int (nI f)), some (.int (nI k)), some (.int (nI e)), some (.int (nI y)), some (.int v1), none]) rfl ?_
      rw [e_v1, nI_1]
      rw [show pi_okC p y (j + 1) c = pi_okC p y j (c + 1) by rw [pi_okC, g1]; rfl] at kk kf
      exact ih (c + 1) (by omega) kk kf
set_option maxRecDepth 100000 in
set_option maxHeartbeats 4000000 in
theorem lp_Pi_hn_y {Q : mj_E → mj_H → Prop} {h : mj_H} {a l t s m : Nat} {p : pi_P} (P : Pi h a l t s m p) {f k e kc ks : Nat} (he : e ≤ p.2.1) : ∀ (j y : Nat), y + j = e → (pi_okY p j y = true → mj_W M_Pi_holdsNumbers Q (2, 45, none) kc ks 96 [some (.ref a), some (.int (nI f)), some (.int (nI k)), some (.int (nI e)), some (.int (nI e)), none, none] [] h) → (pi_okY p j y = false → Q (.inl (some (.int 0))) h) → mj_W M_Pi_holdsNumbers Q (2, 45, none) kc ks 10 [some (.ref a), some (.int (nI f)), some (.int (nI k)), some (.int (nI e)), some (.int (nI y)), none, none] [] h := by
  intro j
  induction j with
  | zero =>
    intro y hy kk kf
    obtain ⟨h1, h2, h3, h4, h5, ⟨n1, n2, n3, n4, n5, n6⟩, w1, w2, w3⟩ := id P
    refine mj_iload d_Pi_holdsNumbers_10 rfl ?_
    refine mj_iload_n d_Pi_holdsNumbers_12 rfl ?_
    refine mj_icmp_ge (tgt := 96) d_Pi_holdsNumbers_13 (by decide) (fun c_13 => ?_) (fun c_13 => ?_)
    · have e9 : y = e := by omega
      subst e9
      exact kk rfl
    · exact absurd (nI_le (by omega) (by omega)) c_13
  | succ j ih =>
    intro y hy kk kf
    obtain ⟨h1, h2, h3, h4, h5, ⟨n1, n2, n3, n4, n5, n6⟩, w1, w2, w3⟩ := id P
    refine mj_iload d_Pi_holdsNumbers_10 rfl ?_
    refine mj_iload_n d_Pi_holdsNumbers_12 rfl ?_
    refine mj_icmp_ge (tgt := 96) d_Pi_holdsNumbers_13 (by decide) (fun c_13 => ?_) (fun c_13 => ?_)
    · exact absurd c_13 (nI_ge (by omega) (by omega))
    · refine mj_iconst (v := 0) d_Pi_holdsNumbers_16 (by decide) ?_
      refine mj_istore (L' := [some (.ref a), some (.int (nI f)), some (.int (nI k)), some (.int (nI e)), some (.int (nI y)), some (.int 0), none]) d_Pi_holdsNumbers_17 (by decide) rfl rfl ?_
      refine lp_Pi_hn_c P (by omega) p.2.2.1 0 (by omega) (fun g1 => ?_) (fun g1 => kf (by rw [pi_okY, g1]; rfl))
      obtain ⟨v1, e_v1⟩ : ∃ q_ : Int32, q_ = (nI y) + 1 := ⟨_, rfl⟩
      refine mj_iinc (x := (nI y)) (v := v1) (L' := [some (.ref a), some (.int (nI f)), some (.int (nI k)), some (.int (nI e)), some (.int v1), some (.int (nI p.2.2.1)), none]) d_Pi_holdsNumbers_90 rfl (by rw [e_v1]; rfl) (by decide) rfl rfl ?_
      refine mj_goto (tgt := 10) d_Pi_holdsNumbers_93 (by decide) ?_
      refine mj_fg 5 (L' := [some (.ref a), some (.int (nI f)), some (.int (nI k)), some (.int (nI e)), some (.int v1), none, none]) rfl ?_
      rw [e_v1, nI_1]
      rw [show pi_okY p (j + 1) y = pi_okY p j (y + 1) by rw [pi_okY, g1]; rfl] at kk kf
      exact ih (y + 1) (by omega) kk kf
set_option maxRecDepth 100000 in
set_option maxHeartbeats 4000000 in
theorem c_Pi_holdsNumbers {h : mj_H} {a l t s m : Nat} {p : pi_P} (P : Pi h a l t s m p) {y k : Nat} (hy : y ≤ pi_end p y k) (hk : k < 4) : mj_Met M_Pi_holdsNumbers (2, 45, none) 0 0 [.ref a, .int (nI y), .int (nI k)] h (mj_q (some (.int (if pi_okN p y k = true then 1 else 0))) h) := by
  have hy8 := pi_end_le p y k
  obtain ⟨h1, h2, h3, h4, h5, ⟨n1, n2, n3, n4, n5, n6⟩, w1, w2, w3⟩ := id P
  refine mj_enter (r := 4) rfl rfl (by decide) rfl ?_
  show mj_W M_Pi_holdsNumbers _ _ _ _ 0 [some (.ref a), some (.int (nI y)), some (.int (nI k)), none, none, none, none] [] h
  refine mj_aload_n d_Pi_holdsNumbers_0 rfl ?_
  refine mj_iload_n d_Pi_holdsNumbers_1 rfl ?_
  refine mj_iload_n d_Pi_holdsNumbers_2 rfl ?_
  refine mj_cV (S := []) (S1 := [.int (nI (pi_end p y k))]) (c_Pi_endOfChunk P (y := y) (by omega) hk) d_Pi_holdsNumbers_3 cw_Pi_endOfChunk ml_Pi_77 im_Pi_endOfChunk se_Pi_endOfChunk rfl h1 (by decide) rfl (Nat.le_of_ble_eq_true rfl) rfl rfl ?_
  refine mj_istore_n (L' := [some (.ref a), some (.int (nI y)), some (.int (nI k)), some (.int (nI (pi_end p y k))), none, none, none]) d_Pi_holdsNumbers_6 (by decide) rfl rfl ?_
  refine mj_iload_n d_Pi_holdsNumbers_7 rfl ?_
  refine mj_istore (L' := [some (.ref a), some (.int (nI y)), some (.int (nI k)), some (.int (nI (pi_end p y k))), some (.int (nI y)), none, none]) d_Pi_holdsNumbers_8 (by decide) rfl rfl ?_
  refine lp_Pi_hn_y P (f := y) (e := pi_end p y k) hy8 (pi_end p y k - y) y (by omega) (fun g1 => ?_) (fun g1 => ⟨by unfold pi_okN; rw [g1]; rfl, rfl⟩)
  refine mj_iconst (v := 1) d_Pi_holdsNumbers_96 (by decide) ?_
  exact mj_zret rfl (by decide) d_Pi_holdsNumbers_97 ⟨by unfold pi_okN; rw [g1]; rfl, rfl⟩
