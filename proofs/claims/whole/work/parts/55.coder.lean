/-- the same picture but for the samples -/
def pi_sm (p p' : pi_P) : Prop := p'.1 = p.1 ∧ p'.2.1 = p.2.1 ∧ p'.2.2.1 = p.2.2.1 ∧ p'.2.2.2.1 = p.2.2.2.1 ∧ p'.2.2.2.2.1 = p.2.2.2.2.1 ∧ p'.2.2.2.2.2.1 = p.2.2.2.2.2.1
theorem pi_sm.rfl {p : pi_P} : pi_sm p p := ⟨Eq.refl _, Eq.refl _, Eq.refl _, Eq.refl _, Eq.refl _, Eq.refl _⟩
theorem pi_sm.trans {p p1 p2 : pi_P} (h : pi_sm p p1) (g : pi_sm p1 p2) : pi_sm p p2 := ⟨g.1.trans h.1, g.2.1.trans h.2.1, g.2.2.1.trans h.2.2.1, g.2.2.2.1.trans h.2.2.2.1, g.2.2.2.2.1.trans h.2.2.2.2.1, g.2.2.2.2.2.trans h.2.2.2.2.2⟩
theorem pi_sm.put {p : pi_P} {c x y : Nat} {b : Int32} : pi_sm p (pi_put p c x y b) := ⟨Eq.refl _, Eq.refl _, Eq.refl _, Eq.refl _, Eq.refl _, Eq.refl _⟩
theorem pi_sm.ok {p p' : pi_P} (h : pi_sm p p') (g : pi_ok p) : pi_ok p' := by
  intro c hc
  rw [h.2.2.1] at hc
  rw [h.2.2.2.2.2]
  exact g c hc
theorem pi_sm.bd {p p' : pi_P} (h : pi_sm p p') (g : p.1 ≤ 8 ∧ p.2.1 ≤ 8 ∧ p.2.2.1 ≤ 3) : p'.1 ≤ 8 ∧ p'.2.1 ≤ 8 ∧ p'.2.2.1 ≤ 3 := by rw [h.1, h.2.1, h.2.2.1]; exact g
theorem pi_sm.on {p p' : pi_P} (h : pi_sm p p') (c w : Nat) : pi_on p' c w = pi_on p c w := by unfold pi_on; rw [h.2.2.2.2.2]
theorem pi_sm.en {p p' : pi_P} (h : pi_sm p p') (y k : Nat) : pi_end p' y k = pi_end p y k := by unfold pi_end; rw [h.2.1]
theorem pi_sm.nx {p p' : pi_P} (h : pi_sm p p') (c : Nat) : pi_nx p' c = pi_nx p c := by unfold pi_nx; rw [h.on, h.1]
theorem pi_sm.ny {p p' : pi_P} (h : pi_sm p p') (c y : Nat) : pi_ny p' c y = pi_ny p c y := by unfold pi_ny; rw [h.on, h.en]
theorem pi_sm.st {p p' : pi_P} (h : pi_sm p p') (c : Nat) : pi_st p' c = pi_st p c := by unfold pi_st; rw [h.2.2.2.2.2]
theorem pi_set {h : mj_H} {a l t s m i : Nat} {p : pi_P} {x : mj_C} (z : 17 ≤ a ∧ 17 ≤ l ∧ 17 ≤ t ∧ 17 ≤ s ∧ 17 ≤ m) (hi : i < 17) : (pi_up h a l t s m p).set i x = pi_up (h.set i x) a l t s m p := by
  unfold pi_up
  rw [List.set_comm _ _ (show m ≠ i by omega), List.set_comm _ _ (show s ≠ i by omega), List.set_comm _ _ (show t ≠ i by omega), List.set_comm _ _ (show l ≠ i by omega), List.set_comm _ _ (show a ≠ i by omega)]
theorem pi_tb {h : mj_H} {a l t s m : Nat} {p : pi_P} {f : Nat → Int32} {r : by_B} (z : 17 ≤ a ∧ 17 ≤ l ∧ 17 ≤ t ∧ 17 ≤ s ∧ 17 ≤ m) : tb_up (pi_up h a l t s m p) f r = pi_up (tb_up h f r) a l t s m p := by
  unfold tb_up by_up wv_up
  rw [pi_set z (by decide), pi_set z (by decide), pi_set z (by decide)]
/-- table, raw bytes and picture -/
def tk_up (h : mj_H) (a l t s m : Nat) (f : Nat → Int32) (r : by_B) (p : pi_P) : mj_H := pi_up (tb_up h f r) a l t s m p
theorem pi_fr17 {h : mj_H} {a l t s m i : Nat} {p : pi_P} (z : 17 ≤ a ∧ 17 ≤ l ∧ 17 ≤ t ∧ 17 ≤ s ∧ 17 ≤ m) (hi : i < 17) : (pi_up h a l t s m p)[i]? = h[i]? := pi_fr (by omega) (by omega) (by omega) (by omega) (by omega)
theorem Ct.pi {h : mj_H} {r : by_B} {f : Nat → Int32} {a l t s m : Nat} {p p' : pi_P} (C : Ct h r f a l t s m p) (hp : p'.1 ≤ 8 ∧ p'.2.1 ≤ 8 ∧ p'.2.2.1 ≤ 3) (ho : pi_ok p') : Ct (pi_up h a l t s m p') r f a l t s m p' := by
  obtain ⟨⟨c0, ⟨b1, b2, b3, b4⟩, P, z, hok⟩, W⟩ := C
  exact ⟨⟨by rw [pi_fr17 z (by decide)]; exact c0, ⟨by rw [pi_fr17 z (by decide)]; exact b1, by rw [pi_fr17 z (by decide)]; exact b2, b3, b4⟩, P.up hp, z, ho⟩, ⟨by rw [pi_fr17 z (by decide)]; exact W.1, by rw [pi_fr17 z (by decide)]; exact W.2⟩⟩
theorem Ct.tk {h : mj_H} {r r' : by_B} {f f' : Nat → Int32} {a l t s m : Nat} {p p' : pi_P} (C : Ct h r f a l t s m p) (hr : r'.1 ≤ 384) (hp : pi_sm p p') : Ct (tk_up h a l t s m f' r' p') r' f' a l t s m p' := (C.tb hr).pi (hp.bd C.1.2.2.1.2.2.2.2.2.2) (hp.ok C.1.2.2.2.2)
theorem Ct.tk1 {h : mj_H} {r r' : by_B} {f : Nat → Int32} {a l t s m : Nat} {p p' : pi_P} (C : Ct h r f a l t s m p) : pi_up (by_up h 4 5 384 r') a l t s m p' = tk_up h a l t s m f r' p' := by
  unfold tk_up tb_up
  rw [C.2.idn]
theorem Ct.tk0 {h : mj_H} {r : by_B} {f : Nat → Int32} {a l t s m : Nat} {p p' : pi_P} (C : Ct h r f a l t s m p) : pi_up h a l t s m p' = tk_up h a l t s m f r p' := by
  unfold tk_up
  rw [C.idn]
theorem Ct.tki {h : mj_H} {r : by_B} {f : Nat → Int32} {a l t s m : Nat} {p : pi_P} (C : Ct h r f a l t s m p) : tk_up h a l t s m f r p = h := by
  unfold tk_up
  rw [C.idn, C.1.2.2.1.idn]
theorem Ct.tkk {h : mj_H} {r r1 r2 : by_B} {f f1 f2 : Nat → Int32} {a l t s m : Nat} {p p1 p2 : pi_P} (C : Ct h r f a l t s m p) (hp1 : pi_sm p p1) (hp2 : pi_sm p p2) : tk_up (tk_up h a l t s m f1 r1 p1) a l t s m f2 r2 p2 = tk_up h a l t s m f2 r2 p2 := by
  unfold tk_up
  rw [pi_tb C.1.2.2.2.1, tb_uu]
  have P := C.1.2.2.1
  have z := C.1.2.2.2.1
  have P1 : Pi (tb_up h f2 r2) a l t s m p := P.via z (fun i hi => by unfold tb_up by_up wv_up; rw [List.getElem?_set_ne (by omega), List.getElem?_set_ne (by omega), List.getElem?_set_ne (by omega)])
  exact P1.upup (hp1.bd P.2.2.2.2.2.2) (hp2.bd P.2.2.2.2.2.2)
theorem Ct.tkr {h : mj_H} {r r' : by_B} {f : Nat → Int32} {a l t s m : Nat} {p : pi_P} (C : Ct h r f a l t s m p) : by_up h 4 5 384 r' = tk_up h a l t s m f r' p := by
  unfold tk_up tb_up
  rw [C.2.idn]
  exact ((C.1.2.1.pic C.1.2.2.1 (by decide) (by decide) C.1.2.2.2.1).idn).symm
theorem by_next_cu : ∀ (j k : Nat) (b : by_B) (z : Int32), b.2.1 ≤ b.1 → (by_next j k b z).2.2.1 ≤ (by_next j k b z).2.1
  | 0, _, _, _, h => h
  | j + 1, k, b, z, h => by
    unfold by_next
    split
    · rename_i q
      exact by_next_cu j (k + 1) (b.1, b.2.1 + 1, b.2.2) _ q
    · exact by_next_cu j (k + 1) b z h
def tk_v (b : Nat) (n : Int32) : Int32 := if b = 2 then n &&& 65535 else if b = 3 then n <<< (8 &&& 31) else n
def tk_n (b : Nat) (df bf : Int32) (r : by_B) : Int32 := (by_next b 0 r 0).1 + (if df = 0 then 0 else bf)
def tk_ln (c y k : Nat) (df : Int32) : Nat → Nat → Int32 → by_B → pi_P → by_B × pi_P
  | 0, _, _, r, p => (r, p)
  | j + 1, i, bf, r, p => tk_ln c y k df j (i + 1) (tk_n (rf_by (p.2.2.2.2.1 c) k) df bf r) (by_next (rf_by (p.2.2.2.2.1 c) k) 0 r 0).2 (pi_put p c (i * pi_st p c) y (tk_v (rf_by (p.2.2.2.2.1 c) k) (tk_n (rf_by (p.2.2.2.2.1 c) k) df bf r)))
theorem tk_ln_in (c y k : Nat) (df : Int32) : ∀ (j i : Nat) (bf : Int32) (r : by_B) (p : pi_P), r.1 ≤ 384 → r.2.1 ≤ r.1 → (tk_ln c y k df j i bf r p).1.1 ≤ 384 ∧ (tk_ln c y k df j i bf r p).1.2.1 ≤ (tk_ln c y k df j i bf r p).1.1 ∧ pi_sm p (tk_ln c y k df j i bf r p).2
  | 0, _, _, _, _, h, g => ⟨h, g, .rfl⟩
  | j + 1, i, bf, r, p, h, g => by
    rw [tk_ln]
    obtain ⟨h1, h2, h3⟩ := tk_ln_in c y k df j (i + 1) (tk_n (rf_by (p.2.2.2.2.1 c) k) df bf r) (by_next (rf_by (p.2.2.2.2.1 c) k) 0 r 0).2 (pi_put p c (i * pi_st p c) y (tk_v (rf_by (p.2.2.2.2.1 c) k) (tk_n (rf_by (p.2.2.2.2.1 c) k) df bf r))) (by rw [(by_next_le _ _ _ _).1]; exact h) (by_next_cu _ _ _ _ g)
    exact ⟨h1, h2, pi_sm.put.trans h3⟩
set_option maxRecDepth 100000 in
set_option maxHeartbeats 4000000 in
theorem lp_Co_takeLine {Q : mj_E → mj_H → Prop} {f : Nat → Int32} {a l t s m : Nat} {c y k kc ks : Nat} {df : Int32} (hy : y < 8) : ∀ (j i : Nat) (bf : Int32) (r : by_B) (p : pi_P) (h : mj_H), Ct h r f a l t s m p → r.2.1 ≤ r.1 → c < p.2.2.1 → i + j = pi_on p c p.1 → mj_W M_Co_takeLine Q (2, 43, none) kc ks 112 [some (.ref 3), some (.ref a), some (.int (nI c)), some (.int (nI y)), some (.int (nI k)), some (.int df), some (.int (nI (rf_by (p.2.2.2.2.1 c) k))), some (.int (nI (pi_on p c p.1))), none, none, none] [] (tk_up h a l t s m f (tk_ln c y k df j i bf r p).1 (tk_ln c y k df j i bf r p).2) → mj_W M_Co_takeLine Q (2, 43, none) kc ks 26 [some (.ref 3), some (.ref a), some (.int (nI c)), some (.int (nI y)), some (.int (nI k)), some (.int df), some (.int (nI (rf_by (p.2.2.2.2.1 c) k))), some (.int (nI (pi_on p c p.1))), some (.int bf), some (.int (nI i)), none] [] h := by
  intro j
  induction j with
  | zero =>
    intro i bf r p h C hcu hc hi kk
    obtain ⟨⟨c0, ⟨b1, b2, b3, b4⟩, ⟨h1, h2, h3, h4, h5, ⟨n1, n2, n3, n4, n5, n6⟩, w1, w2, w3⟩, ⟨z1, z2, z3, z4, z5⟩, hok⟩, ⟨wa, wb⟩⟩ := id C
    have hon : pi_on p c p.1 ≤ 8 := by unfold pi_on; split <;> omega
    refine mj_iload d_Co_takeLine_26 rfl ?_
    refine mj_iload d_Co_takeLine_28 rfl ?_
    refine mj_icmp_ge (tgt := 112) d_Co_takeLine_30 (by decide) (fun c_30 => ?_) (fun c_30 => ?_)
    · refine mj_fg 8 (L' := [some (.ref 3), some (.ref a), some (.int (nI c)), some (.int (nI y)), some (.int (nI k)), some (.int df), some (.int (nI (rf_by (p.2.2.2.2.1 c) k))), some (.int (nI (pi_on p c p.1))), none, some (.int (nI i)), none]) rfl ?_
      refine mj_fg 9 (L' := [some (.ref 3), some (.ref a), some (.int (nI c)), some (.int (nI y)), some (.int (nI k)), some (.int df), some (.int (nI (rf_by (p.2.2.2.2.1 c) k))), some (.int (nI (pi_on p c p.1))), none, none, none]) rfl ?_
      rw [show tk_ln c y k df 0 i bf r p = (r, p) from rfl, C.tki] at kk
      exact kk
    · exact absurd (nI_le (by omega) (by omega)) c_30
  | succ j ih =>
    intro i bf r p h C hcu hc hi kk
    obtain ⟨⟨c0, ⟨b1, b2, b3, b4⟩, ⟨h1, h2, h3, h4, h5, ⟨n1, n2, n3, n4, n5, n6⟩, w1, w2, w3⟩, ⟨z1, z2, z3, z4, z5⟩, hok⟩, ⟨wa, wb⟩⟩ := id C
    have hon : pi_on p c p.1 ≤ 8 := by unfold pi_on; split <;> omega
    refine mj_iload d_Co_takeLine_26 rfl ?_
    refine mj_iload d_Co_takeLine_28 rfl ?_
    refine mj_icmp_ge (tgt := 112) d_Co_takeLine_30 (by decide) (fun c_30 => ?_) (fun c_30 => ?_)
    · exact absurd c_30 (nI_ge (by omega) (by unfold pi_on; split <;> omega))
    · have hi : i < pi_on p c p.1 := by omega
      have hx := pi_st_lt hi
      have hs := pi_st_in p c
      have hby := rf_by_in (p.2.2.2.2.1 c) k
      refine mj_aload_n d_Co_takeLine_33 rfl ?_
      refine mj_get ok_Co (k := 0) (by decide) fl_Co_14 d_Co_takeLine_34 c0 rfl ?_
      refine mj_iload d_Co_takeLine_37 rfl ?_
      refine mj_cV (S := []) (S1 := [.int (by_next (rf_by (p.2.2.2.2.1 c) k) 0 r 0).1]) (c_By_nextNumber C.1.2.1 hcu (rf_by (p.2.2.2.2.1 c) k) (by omega)) d_Co_takeLine_39 cw_By_nextNumber ml_Co_117 im_By_nextNumber se_By_nextNumber rfl b1 (by decide) rfl (Nat.le_of_ble_eq_true rfl) rfl rfl ?_
      have hr1 : (by_next (rf_by (p.2.2.2.2.1 c) k) 0 r 0).2.1 ≤ 384 := by rw [(by_next_le _ _ _ _).1]; exact b3
      have C1 := C.up (r' := (by_next (rf_by (p.2.2.2.2.1 c) k) 0 r 0).2) hr1
      obtain ⟨⟨d0, ⟨e1, e2, e3, e4⟩, ⟨i1, i2, i3, i4, i5, i6⟩, -⟩, -⟩ := id C1
      obtain ⟨v0, e_v0⟩ : ∃ q_ : Int32, q_ = (by_next (rf_by (p.2.2.2.2.1 c) k) 0 r 0).1 := ⟨_, rfl⟩
      rw [← e_v0]
      refine mj_iload d_Co_takeLine_42 rfl ?_
      refine mj_if_eq (tgt := 52) d_Co_takeLine_44 (by decide) (fun c_44 => ?_) (fun c_44 => ?_)
      · refine mj_iconst (v := 0) d_Co_takeLine_52 (by decide) ?_
        refine mj_iadd d_Co_takeLine_53 ?_
        refine mj_topi (fun v1 e_v1 => ?_)
        refine mj_istore (L' := [some (.ref 3), some (.ref a), some (.int (nI c)), some (.int (nI y)), some (.int (nI k)), some (.int df), some (.int (nI (rf_by (p.2.2.2.2.1 c) k))), some (.int (nI (pi_on p c p.1))), some (.int bf), some (.int (nI i)), some (.int v1)]) d_Co_takeLine_54 (by decide) rfl rfl ?_
        have en : v1 = tk_n (rf_by (p.2.2.2.2.1 c) k) df bf r := by unfold tk_n; rw [e_v1, e_v0, if_pos c_44]
        refine mj_iload d_Co_takeLine_56 rfl ?_
        refine mj_istore (L' := [some (.ref 3), some (.ref a), some (.int (nI c)), some (.int (nI y)), some (.int (nI k)), some (.int df), some (.int (nI (rf_by (p.2.2.2.2.1 c) k))), some (.int (nI (pi_on p c p.1))), some (.int v1), some (.int (nI i)), some (.int v1)]) d_Co_takeLine_58 (by decide) rfl rfl ?_
        refine mj_iload d_Co_takeLine_60 rfl ?_
        refine mj_iconst (v := 2) d_Co_takeLine_62 (by decide) ?_
        refine mj_icmp_ne (tgt := 76) d_Co_takeLine_63 (by decide) (fun c_63 => ?_) (fun c_63 => ?_)
        · refine mj_iload d_Co_takeLine_76 rfl ?_
          refine mj_iconst (v := 3) d_Co_takeLine_78 (by decide) ?_
          refine mj_icmp_ne (tgt := 89) d_Co_takeLine_79 (by decide) (fun c_79 => ?_) (fun c_79 => ?_)
          · have g2 : ¬ rf_by (p.2.2.2.2.1 c) k = 2 := fun e0 => c_63 (by rw [e0]; rfl)
            have g3 : ¬ rf_by (p.2.2.2.2.1 c) k = 3 := fun e0 => c_79 (by rw [e0]; rfl)
            have ev : v1 = tk_v (rf_by (p.2.2.2.2.1 c) k) v1 := by unfold tk_v; rw [if_neg g2, if_neg g3]
            refine mj_aload_n d_Co_takeLine_89 rfl ?_
            refine mj_iload_n d_Co_takeLine_90 rfl ?_
            refine mj_iload d_Co_takeLine_91 rfl ?_
            refine mj_aload_n d_Co_takeLine_93 rfl ?_
            refine mj_get ok_Pi (k := 5) (by decide) fl_Co_98 d_Co_takeLine_94 i1 rfl ?_
            refine mj_iload_n d_Co_takeLine_97 rfl ?_
            refine mj_iald d_Co_takeLine_98 i4 (vp_in_nI (by omega) (by decide)) ?_
            refine mj_imul d_Co_takeLine_99 ?_
            refine mj_iload_n d_Co_takeLine_100 rfl ?_
            refine mj_iload d_Co_takeLine_101 rfl ?_
            rw [nI_clamp (by omega), hok.st hc, pk_mul]
            refine mj_cV (S := []) (S1 := []) (c_Pi_put C1.1.2.2.1 (c := c) (x := i * pi_st p c) (y := y) (by omega) (by omega) (by omega) v1) d_Co_takeLine_103 cw_Pi_put ml_Co_121 im_Pi_put se_Pi_put rfl i1 (by decide) rfl (Nat.le_of_ble_eq_true rfl) rfl rfl ?_
            rw [C.tk1]
            obtain ⟨v2, e_v2⟩ : ∃ q_ : Int32, q_ = (nI i) + 1 := ⟨_, rfl⟩
            refine mj_iinc (x := (nI i)) (v := v2) (L' := [some (.ref 3), some (.ref a), some (.int (nI c)), some (.int (nI y)), some (.int (nI k)), some (.int df), some (.int (nI (rf_by (p.2.2.2.2.1 c) k))), some (.int (nI (pi_on p c p.1))), some (.int v1), some (.int v2), some (.int v1)]) d_Co_takeLine_106 rfl (by rw [e_v2]; rfl) (by decide) rfl rfl ?_
            refine mj_goto (tgt := 26) d_Co_takeLine_109 (by decide) ?_
            rw [e_v2, nI_1]
            refine mj_fg 10 (L' := [some (.ref 3), some (.ref a), some (.int (nI c)), some (.int (nI y)), some (.int (nI k)), some (.int df), some (.int (nI (rf_by (p.2.2.2.2.1 c) k))), some (.int (nI (pi_on p c p.1))), some (.int v1), some (.int (nI (i + 1))), none]) rfl ?_
            have es : pi_sm p (pi_put p c (i * pi_st p c) y v1) := .put
            have ti := tk_ln_in c y k df j (i + 1) v1 (by_next (rf_by (p.2.2.2.2.1 c) k) 0 r 0).2 (pi_put p c (i * pi_st p c) y v1) hr1 (by_next_cu _ _ _ _ hcu)
            rw [show tk_ln c y k df (j + 1) i bf r p = tk_ln c y k df j (i + 1) v1 (by_next (rf_by (p.2.2.2.2.1 c) k) 0 r 0).2 (pi_put p c (i * pi_st p c) y v1) by rw [tk_ln, ← en, ← ev]] at kk
            refine ih (i + 1) v1 (by_next (rf_by (p.2.2.2.2.1 c) k) 0 r 0).2 (pi_put p c (i * pi_st p c) y v1) _ (C.tk hr1 es) (by_next_cu _ _ _ _ hcu) hc (show i + 1 + j = pi_on p c p.1 by omega) ?_
            rw [C.tkk es (es.trans ti.2.2)]
            exact kk
          · refine mj_iload d_Co_takeLine_82 rfl ?_
            refine mj_bipush (v := 8) d_Co_takeLine_84 (by decide) ?_
            refine mj_ishl d_Co_takeLine_86 ?_
            refine mj_topi (fun v3 e_v3 => ?_)
            refine mj_istore (L' := [some (.ref 3), some (.ref a), some (.int (nI c)), some (.int (nI y)), some (.int (nI k)), some (.int df), some (.int (nI (rf_by (p.2.2.2.2.1 c) k))), some (.int (nI (pi_on p c p.1))), some (.int v1), some (.int (nI i)), some (.int v3)]) d_Co_takeLine_87 (by decide) rfl rfl ?_
            have g2 : ¬ rf_by (p.2.2.2.2.1 c) k = 2 := fun e0 => c_63 (by rw [e0]; rfl)
            have g3 : rf_by (p.2.2.2.2.1 c) k = 3 := by rw [show (3 : Int32) = nI 3 from rfl, nI_eq (by omega) (by decide)] at c_79; exact c_79
            have ev : v3 = tk_v (rf_by (p.2.2.2.2.1 c) k) v1 := by unfold tk_v; rw [if_neg g2, if_pos g3, e_v3]
            refine mj_aload_n d_Co_takeLine_89 rfl ?_
            refine mj_iload_n d_Co_takeLine_90 rfl ?_
            refine mj_iload d_Co_takeLine_91 rfl ?_
            refine mj_aload_n d_Co_takeLine_93 rfl ?_
            refine mj_get ok_Pi (k := 5) (by decide) fl_Co_98 d_Co_takeLine_94 i1 rfl ?_
            refine mj_iload_n d_Co_takeLine_97 rfl ?_
            refine mj_iald d_Co_takeLine_98 i4 (vp_in_nI (by omega) (by decide)) ?_
            refine mj_imul d_Co_takeLine_99 ?_
            refine mj_iload_n d_Co_takeLine_100 rfl ?_
            refine mj_iload d_Co_takeLine_101 rfl ?_
            rw [nI_clamp (by omega), hok.st hc, pk_mul]
            refine mj_cV (S := []) (S1 := []) (c_Pi_put C1.1.2.2.1 (c := c) (x := i * pi_st p c) (y := y) (by omega) (by omega) (by omega) v3) d_Co_takeLine_103 cw_Pi_put ml_Co_121 im_Pi_put se_Pi_put rfl i1 (by decide) rfl (Nat.le_of_ble_eq_true rfl) rfl rfl ?_
            rw [C.tk1]
            obtain ⟨v4, e_v4⟩ : ∃ q_ : Int32, q_ = (nI i) + 1 := ⟨_, rfl⟩
            refine mj_iinc (x := (nI i)) (v := v4) (L' := [some (.ref 3), some (.ref a), some (.int (nI c)), some (.int (nI y)), some (.int (nI k)), some (.int df), some (.int (nI (rf_by (p.2.2.2.2.1 c) k))), some (.int (nI (pi_on p c p.1))), some (.int v1), some (.int v4), some (.int v3)]) d_Co_takeLine_106 rfl (by rw [e_v4]; rfl) (by decide) rfl rfl ?_
            refine mj_goto (tgt := 26) d_Co_takeLine_109 (by decide) ?_
            rw [e_v4, nI_1]
            refine mj_fg 10 (L' := [some (.ref 3), some (.ref a), some (.int (nI c)), some (.int (nI y)), some (.int (nI k)), some (.int df), some (.int (nI (rf_by (p.2.2.2.2.1 c) k))), some (.int (nI (pi_on p c p.1))), some (.int v1), some (.int (nI (i + 1))), none]) rfl ?_
            have es : pi_sm p (pi_put p c (i * pi_st p c) y v3) := .put
            have ti := tk_ln_in c y k df j (i + 1) v1 (by_next (rf_by (p.2.2.2.2.1 c) k) 0 r 0).2 (pi_put p c (i * pi_st p c) y v3) hr1 (by_next_cu _ _ _ _ hcu)
            rw [show tk_ln c y k df (j + 1) i bf r p = tk_ln c y k df j (i + 1) v1 (by_next (rf_by (p.2.2.2.2.1 c) k) 0 r 0).2 (pi_put p c (i * pi_st p c) y v3) by rw [tk_ln, ← en, ← ev]] at kk
            refine ih (i + 1) v1 (by_next (rf_by (p.2.2.2.2.1 c) k) 0 r 0).2 (pi_put p c (i * pi_st p c) y v3) _ (C.tk hr1 es) (by_next_cu _ _ _ _ hcu) hc (show i + 1 + j = pi_on p c p.1 by omega) ?_
            rw [C.tkk es (es.trans ti.2.2)]
            exact kk
        · refine mj_iload d_Co_takeLine_66 rfl ?_
          refine mj_ldc d_Co_takeLine_68 k_Co_120 ?_
          refine mj_iand d_Co_takeLine_70 ?_
          refine mj_topi (fun v5 e_v5 => ?_)
          refine mj_istore (L' := [some (.ref 3), some (.ref a), some (.int (nI c)), some (.int (nI y)), some (.int (nI k)), some (.int df), some (.int (nI (rf_by (p.2.2.2.2.1 c) k))), some (.int (nI (pi_on p c p.1))), some (.int v1), some (.int (nI i)), some (.int v5)]) d_Co_takeLine_71 (by decide) rfl rfl ?_
          refine mj_goto (tgt := 89) d_Co_takeLine_73 (by decide) ?_
          have g2 : rf_by (p.2.2.2.2.1 c) k = 2 := by rw [show (2 : Int32) = nI 2 from rfl, nI_eq (by omega) (by decide)] at c_63; exact c_63
          have ev : v5 = tk_v (rf_by (p.2.2.2.2.1 c) k) v1 := by unfold tk_v; rw [if_pos g2, e_v5]
          refine mj_aload_n d_Co_takeLine_89 rfl ?_
          refine mj_iload_n d_Co_takeLine_90 rfl ?_
          refine mj_iload d_Co_takeLine_91 rfl ?_
          refine mj_aload_n d_Co_takeLine_93 rfl ?_
          refine mj_get ok_Pi (k := 5) (by decide) fl_Co_98 d_Co_takeLine_94 i1 rfl ?_
          refine mj_iload_n d_Co_takeLine_97 rfl ?_
          refine mj_iald d_Co_takeLine_98 i4 (vp_in_nI (by omega) (by decide)) ?_
          refine mj_imul d_Co_takeLine_99 ?_
          refine mj_iload_n d_Co_takeLine_100 rfl ?_
          refine mj_iload d_Co_takeLine_101 rfl ?_
          rw [nI_clamp (by omega), hok.st hc, pk_mul]
          refine mj_cV (S := []) (S1 := []) (c_Pi_put C1.1.2.2.1 (c := c) (x := i * pi_st p c) (y := y) (by omega) (by omega) (by omega) v5) d_Co_takeLine_103 cw_Pi_put ml_Co_121 im_Pi_put se_Pi_put rfl i1 (by decide) rfl (Nat.le_of_ble_eq_true rfl) rfl rfl ?_
          rw [C.tk1]
          obtain ⟨v6, e_v6⟩ : ∃ q_ : Int32, q_ = (nI i) + 1 := ⟨_, rfl⟩
          refine mj_iinc (x := (nI i)) (v := v6) (L' := [some (.ref 3), some (.ref a), some (.int (nI c)), some (.int (nI y)), some (.int (nI k)), some (.int df), some (.int (nI (rf_by (p.2.2.2.2.1 c) k))), some (.int (nI (pi_on p c p.1))), some (.int v1), some (.int v6), some (.int v5)]) d_Co_takeLine_106 rfl (by rw [e_v6]; rfl) (by decide) rfl rfl ?_
          refine mj_goto (tgt := 26) d_Co_takeLine_109 (by decide) ?_
          rw [e_v6, nI_1]
          refine mj_fg 10 (L' := [some (.ref 3), some (.ref a), some (.int (nI c)), some (.int (nI y)), some (.int (nI k)), some (.int df), some (.int (nI (rf_by (p.2.2.2.2.1 c) k))), some (.int (nI (pi_on p c p.1))), some (.int v1), some (.int (nI (i + 1))), none]) rfl ?_
          have es : pi_sm p (pi_put p c (i * pi_st p c) y v5) := .put
          have ti := tk_ln_in c y k df j (i + 1) v1 (by_next (rf_by (p.2.2.2.2.1 c) k) 0 r 0).2 (pi_put p c (i * pi_st p c) y v5) hr1 (by_next_cu _ _ _ _ hcu)
          rw [show tk_ln c y k df (j + 1) i bf r p = tk_ln c y k df j (i + 1) v1 (by_next (rf_by (p.2.2.2.2.1 c) k) 0 r 0).2 (pi_put p c (i * pi_st p c) y v5) by rw [tk_ln, ← en, ← ev]] at kk
          refine ih (i + 1) v1 (by_next (rf_by (p.2.2.2.2.1 c) k) 0 r 0).2 (pi_put p c (i * pi_st p c) y v5) _ (C.tk hr1 es) (by_next_cu _ _ _ _ hcu) hc (show i + 1 + j = pi_on p c p.1 by omega) ?_
          rw [C.tkk es (es.trans ti.2.2)]
          exact kk
      · refine mj_iload d_Co_takeLine_47 rfl ?_
        refine mj_goto (tgt := 53) d_Co_takeLine_49 (by decide) ?_
        refine mj_iadd d_Co_takeLine_53 ?_
        refine mj_topi (fun v7 e_v7 => ?_)
        refine mj_istore (L' := [some (.ref 3), some (.ref a), some (.int (nI c)), some (.int (nI y)), some (.int (nI k)), some (.int df), some (.int (nI (rf_by (p.2.2.2.2.1 c) k))), some (.int (nI (pi_on p c p.1))), some (.int bf), some (.int (nI i)), some (.int v7)]) d_Co_takeLine_54 (by decide) rfl rfl ?_
        have en : v7 = tk_n (rf_by (p.2.2.2.2.1 c) k) df bf r := by unfold tk_n; rw [e_v7, e_v0, if_neg c_44]
        refine mj_iload d_Co_takeLine_56 rfl ?_
        refine mj_istore (L' := [some (.ref 3), some (.ref a), some (.int (nI c)), some (.int (nI y)), some (.int (nI k)), some (.int df), some (.int (nI (rf_by (p.2.2.2.2.1 c) k))), some (.int (nI (pi_on p c p.1))), some (.int v7), some (.int (nI i)), some (.int v7)]) d_Co_takeLine_58 (by decide) rfl rfl ?_
        refine mj_iload d_Co_takeLine_60 rfl ?_
        refine mj_iconst (v := 2) d_Co_takeLine_62 (by decide) ?_
        refine mj_icmp_ne (tgt := 76) d_Co_takeLine_63 (by decide) (fun c_63 => ?_) (fun c_63 => ?_)
        · refine mj_iload d_Co_takeLine_76 rfl ?_
          refine mj_iconst (v := 3) d_Co_takeLine_78 (by decide) ?_
          refine mj_icmp_ne (tgt := 89) d_Co_takeLine_79 (by decide) (fun c_79 => ?_) (fun c_79 => ?_)
          · have g2 : ¬ rf_by (p.2.2.2.2.1 c) k = 2 := fun e0 => c_63 (by rw [e0]; rfl)
            have g3 : ¬ rf_by (p.2.2.2.2.1 c) k = 3 := fun e0 => c_79 (by rw [e0]; rfl)
            have ev : v7 = tk_v (rf_by (p.2.2.2.2.1 c) k) v7 := by unfold tk_v; rw [if_neg g2, if_neg g3]
            refine mj_aload_n d_Co_takeLine_89 rfl ?_
            refine mj_iload_n d_Co_takeLine_90 rfl ?_
            refine mj_iload d_Co_takeLine_91 rfl ?_
            refine mj_aload_n d_Co_takeLine_93 rfl ?_
            refine mj_get ok_Pi (k := 5) (by decide) fl_Co_98 d_Co_takeLine_94 i1 rfl ?_
            refine mj_iload_n d_Co_takeLine_97 rfl ?_
            refine mj_iald d_Co_takeLine_98 i4 (vp_in_nI (by omega) (by decide)) ?_
            refine mj_imul d_Co_takeLine_99 ?_
            refine mj_iload_n d_Co_takeLine_100 rfl ?_
            refine mj_iload d_Co_takeLine_101 rfl ?_
            rw [nI_clamp (by omega), hok.st hc, pk_mul]
            refine mj_cV (S := []) (S1 := []) (c_Pi_put C1.1.2.2.1 (c := c) (x := i * pi_st p c) (y := y) (by omega) (by omega) (by omega) v7) d_Co_takeLine_103 cw_Pi_put ml_Co_121 im_Pi_put se_Pi_put rfl i1 (by decide) rfl (Nat.le_of_ble_eq_true rfl) rfl rfl ?_
            rw [C.tk1]
            obtain ⟨v8, e_v8⟩ : ∃ q_ : Int32, q_ = (nI i) + 1 := ⟨_, rfl⟩
            refine mj_iinc (x := (nI i)) (v := v8) (L' := [some (.ref 3), some (.ref a), some (.int (nI c)), some (.int (nI y)), some (.int (nI k)), some (.int df), some (.int (nI (rf_by (p.2.2.2.2.1 c) k))), some (.int (nI (pi_on p c p.1))), some (.int v7), some (.int v8), some (.int v7)]) d_Co_takeLine_106 rfl (by rw [e_v8]; rfl) (by decide) rfl rfl ?_
            refine mj_goto (tgt := 26) d_Co_takeLine_109 (by decide) ?_
            rw [e_v8, nI_1]
            refine mj_fg 10 (L' := [some (.ref 3), some (.ref a), some (.int (nI c)), some (.int (nI y)), some (.int (nI k)), some (.int df), some (.int (nI (rf_by (p.2.2.2.2.1 c) k))), some (.int (nI (pi_on p c p.1))), some (.int v7), some (.int (nI (i + 1))), none]) rfl ?_
            have es : pi_sm p (pi_put p c (i * pi_st p c) y v7) := .put
            have ti := tk_ln_in c y k df j (i + 1) v7 (by_next (rf_by (p.2.2.2.2.1 c) k) 0 r 0).2 (pi_put p c (i * pi_st p c) y v7) hr1 (by_next_cu _ _ _ _ hcu)
            rw [show tk_ln c y k df (j + 1) i bf r p = tk_ln c y k df j (i + 1) v7 (by_next (rf_by (p.2.2.2.2.1 c) k) 0 r 0).2 (pi_put p c (i * pi_st p c) y v7) by rw [tk_ln, ← en, ← ev]] at kk
            refine ih (i + 1) v7 (by_next (rf_by (p.2.2.2.2.1 c) k) 0 r 0).2 (pi_put p c (i * pi_st p c) y v7) _ (C.tk hr1 es) (by_next_cu _ _ _ _ hcu) hc (show i + 1 + j = pi_on p c p.1 by omega) ?_
            rw [C.tkk es (es.trans ti.2.2)]
            exact kk
          · refine mj_iload d_Co_takeLine_82 rfl ?_
            refine mj_bipush (v := 8) d_Co_takeLine_84 (by decide) ?_
            refine mj_ishl d_Co_takeLine_86 ?_
            refine mj_topi (fun v9 e_v9 => ?_)
            refine mj_istore (L' := [some (.ref 3), some (.ref a), some (.int (nI c)), some (.int (nI y)), some (.int (nI k)), some (.int df), some (.int (nI (rf_by (p.2.2.2.2.1 c) k))), some (.int (nI (pi_on p c p.1))), some (.int v7), some (.int (nI i)), some (.int v9)]) d_Co_takeLine_87 (by decide) rfl rfl ?_
            have g2 : ¬ rf_by (p.2.2.2.2.1 c) k = 2 := fun e0 => c_63 (by rw [e0]; rfl)
            have g3 : rf_by (p.2.2.2.2.1 c) k = 3 := by rw [show (3 : Int32) = nI 3 from rfl, nI_eq (by omega) (by decide)] at c_79; exact c_79
            have ev : v9 = tk_v (rf_by (p.2.2.2.2.1 c) k) v7 := by unfold tk_v; rw [if_neg g2, if_pos g3, e_v9]
            refine mj_aload_n d_Co_takeLine_89 rfl ?_
            refine mj_iload_n d_Co_takeLine_90 rfl ?_
            refine mj_iload d_Co_takeLine_91 rfl ?_
            refine mj_aload_n d_Co_takeLine_93 rfl ?_
            refine mj_get ok_Pi (k := 5) (by decide) fl_Co_98 d_Co_takeLine_94 i1 rfl ?_
            refine mj_iload_n d_Co_takeLine_97 rfl ?_
            refine mj_iald d_Co_takeLine_98 i4 (vp_in_nI (by omega) (by decide)) ?_
            refine mj_imul d_Co_takeLine_99 ?_
            refine mj_iload_n d_Co_takeLine_100 rfl ?_
            refine mj_iload d_Co_takeLine_101 rfl ?_
            rw [nI_clamp (by omega), hok.st hc, pk_mul]
            refine mj_cV (S := []) (S1 := []) (c_Pi_put C1.1.2.2.1 (c := c) (x := i * pi_st p c) (y := y) (by omega) (by omega) (by omega) v9) d_Co_takeLine_103 cw_Pi_put ml_Co_121 im_Pi_put se_Pi_put rfl i1 (by decide) rfl (Nat.le_of_ble_eq_true rfl) rfl rfl ?_
            rw [C.tk1]
            obtain ⟨v10, e_v10⟩ : ∃ q_ : Int32, q_ = (nI i) + 1 := ⟨_, rfl⟩
            refine mj_iinc (x := (nI i)) (v := v10) (L' := [some (.ref 3), some (.ref a), some (.int (nI c)), some (.int (nI y)), some (.int (nI k)), some (.int df), some (.int (nI (rf_by (p.2.2.2.2.1 c) k))), some (.int (nI (pi_on p c p.1))), some (.int v7), some (.int v10), some (.int v9)]) d_Co_takeLine_106 rfl (by rw [e_v10]; rfl) (by decide) rfl rfl ?_
            refine mj_goto (tgt := 26) d_Co_takeLine_109 (by decide) ?_
            rw [e_v10, nI_1]
            refine mj_fg 10 (L' := [some (.ref 3), some (.ref a), some (.int (nI c)), some (.int (nI y)), some (.int (nI k)), some (.int df), some (.int (nI (rf_by (p.2.2.2.2.1 c) k))), some (.int (nI (pi_on p c p.1))), some (.int v7), some (.int (nI (i + 1))), none]) rfl ?_
            have es : pi_sm p (pi_put p c (i * pi_st p c) y v9) := .put
            have ti := tk_ln_in c y k df j (i + 1) v7 (by_next (rf_by (p.2.2.2.2.1 c) k) 0 r 0).2 (pi_put p c (i * pi_st p c) y v9) hr1 (by_next_cu _ _ _ _ hcu)
            rw [show tk_ln c y k df (j + 1) i bf r p = tk_ln c y k df j (i + 1) v7 (by_next (rf_by (p.2.2.2.2.1 c) k) 0 r 0).2 (pi_put p c (i * pi_st p c) y v9) by rw [tk_ln, ← en, ← ev]] at kk
            refine ih (i + 1) v7 (by_next (rf_by (p.2.2.2.2.1 c) k) 0 r 0).2 (pi_put p c (i * pi_st p c) y v9) _ (C.tk hr1 es) (by_next_cu _ _ _ _ hcu) hc (show i + 1 + j = pi_on p c p.1 by omega) ?_
            rw [C.tkk es (es.trans ti.2.2)]
            exact kk
        · refine mj_iload d_Co_takeLine_66 rfl ?_
          refine mj_ldc d_Co_takeLine_68 k_Co_120 ?_
          refine mj_iand d_Co_takeLine_70 ?_
          refine mj_topi (fun v11 e_v11 => ?_)
          refine mj_istore (L' := [some (.ref 3), some (.ref a), some (.int (nI c)), some (.int (nI y)), some (.int (nI k)), some (.int df), some (.int (nI (rf_by (p.2.2.2.2.1 c) k))), some (.int (nI (pi_on p c p.1))), some (.int v7), some (.int (nI i)), some (.int v11)]) d_Co_takeLine_71 (by decide) rfl rfl ?_
          refine mj_goto (tgt := 89) d_Co_takeLine_73 (by decide) ?_
          have g2 : rf_by (p.2.2.2.2.1 c) k = 2 := by rw [show (2 : Int32) = nI 2 from rfl, nI_eq (by omega) (by decide)] at c_63; exact c_63
          have ev : v11 = tk_v (rf_by (p.2.2.2.2.1 c) k) v7 := by unfold tk_v; rw [if_pos g2, e_v11]
          refine mj_aload_n d_Co_takeLine_89 rfl ?_
          refine mj_iload_n d_Co_takeLine_90 rfl ?_
          refine mj_iload d_Co_takeLine_91 rfl ?_
          refine mj_aload_n d_Co_takeLine_93 rfl ?_
          refine mj_get ok_Pi (k := 5) (by decide) fl_Co_98 d_Co_takeLine_94 i1 rfl ?_
          refine mj_iload_n d_Co_takeLine_97 rfl ?_
          refine mj_iald d_Co_takeLine_98 i4 (vp_in_nI (by omega) (by decide)) ?_
          refine mj_imul d_Co_takeLine_99 ?_
          refine mj_iload_n d_Co_takeLine_100 rfl ?_
          refine mj_iload d_Co_takeLine_101 rfl ?_
          rw [nI_clamp (by omega), hok.st hc, pk_mul]
          refine mj_cV (S := []) (S1 := []) (c_Pi_put C1.1.2.2.1 (c := c) (x := i * pi_st p c) (y := y) (by omega) (by omega) (by omega) v11) d_Co_takeLine_103 cw_Pi_put ml_Co_121 im_Pi_put se_Pi_put rfl i1 (by decide) rfl (Nat.le_of_ble_eq_true rfl) rfl rfl ?_
          rw [C.tk1]
          obtain ⟨v12, e_v12⟩ : ∃ q_ : Int32, q_ = (nI i) + 1 := ⟨_, rfl⟩
          refine mj_iinc (x := (nI i)) (v := v12) (L' := [some (.ref 3), some (.ref a), some (.int (nI c)), some (.int (nI y)), some (.int (nI k)), some (.int df), some (.int (nI (rf_by (p.2.2.2.2.1 c) k))), some (.int (nI (pi_on p c p.1))), some (.int v7), some (.int v12), some (.int v11)]) d_Co_takeLine_106 rfl (by rw [e_v12]; rfl) (by decide) rfl rfl ?_
          refine mj_goto (tgt := 26) d_Co_takeLine_109 (by decide) ?_
          rw [e_v12, nI_1]
          refine mj_fg 10 (L' := [some (.ref 3), some (.ref a), some (.int (nI c)), some (.int (nI y)), some (.int (nI k)), some (.int df), some (.int (nI (rf_by (p.2.2.2.2.1 c) k))), some (.int (nI (pi_on p c p.1))), some (.int v7), some (.int (nI (i + 1))), none]) rfl ?_
          have es : pi_sm p (pi_put p c (i * pi_st p c) y v11) := .put
          have ti := tk_ln_in c y k df j (i + 1) v7 (by_next (rf_by (p.2.2.2.2.1 c) k) 0 r 0).2 (pi_put p c (i * pi_st p c) y v11) hr1 (by_next_cu _ _ _ _ hcu)
          rw [show tk_ln c y k df (j + 1) i bf r p = tk_ln c y k df j (i + 1) v7 (by_next (rf_by (p.2.2.2.2.1 c) k) 0 r 0).2 (pi_put p c (i * pi_st p c) y v11) by rw [tk_ln, ← en, ← ev]] at kk
          refine ih (i + 1) v7 (by_next (rf_by (p.2.2.2.2.1 c) k) 0 r 0).2 (pi_put p c (i * pi_st p c) y v11) _ (C.tk hr1 es) (by_next_cu _ _ _ _ hcu) hc (show i + 1 + j = pi_on p c p.1 by omega) ?_
          rw [C.tkk es (es.trans ti.2.2)]
          exact kk
set_option maxRecDepth 100000 in
set_option maxHeartbeats 4000000 in
theorem c_Co_takeLine {h : mj_H} {r : by_B} {f : Nat → Int32} {a l t s m : Nat} {p : pi_P} (C : Ct h r f a l t s m p) (hcu : r.2.1 ≤ r.1) {c y k : Nat} (df : Int32) (hc : c < p.2.2.1) (hy : y < 8) (hk : k < 4) : mj_Met M_Co_takeLine (2, 43, none) 0 0 [.ref 3, .ref a, .int (nI c), .int (nI y), .int (nI k), .int df] h (mj_q none (tk_up h a l t s m f (tk_ln c y k df (pi_on p c p.1) 0 0 r p).1 (tk_ln c y k df (pi_on p c p.1) 0 0 r p).2)) := by
  obtain ⟨⟨c0, ⟨b1, b2, b3, b4⟩, ⟨h1, h2, h3, h4, h5, ⟨n1, n2, n3, n4, n5, n6⟩, w1, w2, w3⟩, ⟨z1, z2, z3, z4, z5⟩, hok⟩, ⟨wa, wb⟩⟩ := id C
  refine mj_enter (r := 5) rfl rfl (by decide) rfl ?_
  show mj_W M_Co_takeLine _ _ _ _ 0 [some (.ref 3), some (.ref a), some (.int (nI c)), some (.int (nI y)), some (.int (nI k)), some (.int df), none, none, none, none, none] [] h
  refine mj_aload_n d_Co_takeLine_0 rfl ?_
  refine mj_get ok_Pi (k := 4) (by decide) fl_Co_87 d_Co_takeLine_1 h1 rfl ?_
  refine mj_iload_n d_Co_takeLine_4 rfl ?_
  refine mj_iald d_Co_takeLine_5 h3 (vp_in_nI (by omega) (by decide)) ?_
  refine mj_iload d_Co_takeLine_6 rfl ?_
  rw [nI_clamp (by omega)]
  refine mj_cSN (S := []) (S1 := [.int (rf_bytes (p.2.2.2.2.1 c) (nI k))]) (c_RF_bytesOfSample _ _) d_Co_takeLine_8 cw_RF_bytesOfSample mn_Co_91 st_RF_bytesOfSample (by decide) rfl (Nat.le_of_ble_eq_true rfl) rfl rfl ?_
  rw [rf_bytes_by _ hk]
  refine mj_istore (L' := [some (.ref 3), some (.ref a), some (.int (nI c)), some (.int (nI y)), some (.int (nI k)), some (.int df), some (.int (nI (rf_by (p.2.2.2.2.1 c) k))), none, none, none, none]) d_Co_takeLine_11 (by decide) rfl rfl ?_
  refine mj_aload_n d_Co_takeLine_13 rfl ?_
  refine mj_iload_n d_Co_takeLine_14 rfl ?_
  refine mj_cV (S := []) (S1 := [.int (nI (pi_on p c p.1))]) (c_Pi_columns C.1.2.2.1 (c := c) (by omega)) d_Co_takeLine_15 cw_Pi_columns ml_Co_94 im_Pi_columns se_Pi_columns rfl h1 (by decide) rfl (Nat.le_of_ble_eq_true rfl) rfl rfl ?_
  refine mj_istore (L' := [some (.ref 3), some (.ref a), some (.int (nI c)), some (.int (nI y)), some (.int (nI k)), some (.int df), some (.int (nI (rf_by (p.2.2.2.2.1 c) k))), some (.int (nI (pi_on p c p.1))), none, none, none]) d_Co_takeLine_18 (by decide) rfl rfl ?_
  refine mj_iconst (v := 0) d_Co_takeLine_20 (by decide) ?_
  refine mj_istore (L' := [some (.ref 3), some (.ref a), some (.int (nI c)), some (.int (nI y)), some (.int (nI k)), some (.int df), some (.int (nI (rf_by (p.2.2.2.2.1 c) k))), some (.int (nI (pi_on p c p.1))), some (.int 0), none, none]) d_Co_takeLine_21 (by decide) rfl rfl ?_
  refine mj_iconst (v := 0) d_Co_takeLine_23 (by decide) ?_
  refine mj_istore (L' := [some (.ref 3), some (.ref a), some (.int (nI c)), some (.int (nI y)), some (.int (nI k)), some (.int df), some (.int (nI (rf_by (p.2.2.2.2.1 c) k))), some (.int (nI (pi_on p c p.1))), some (.int 0), some (.int 0), none]) d_Co_takeLine_24 (by decide) rfl rfl ?_
  refine lp_Co_takeLine hy (pi_on p c p.1) 0 0 r p h C hcu hc (by omega) ?_
  exact mj_vret rfl d_Co_takeLine_112 ⟨rfl, rfl⟩
