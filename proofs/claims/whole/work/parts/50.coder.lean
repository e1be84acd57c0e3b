/-! Coder: cells 3 to 12; a picture lies behind them -/
def co_o : mj_C := .inr (2, [.ref 4, .ref 6, .ref 8, .ref 11])
def pi_st (p : pi_P) (c : Nat) : Nat := if p.2.2.2.2.2.1 c = 1 then 1 else 2
def pi_ok (p : pi_P) : Prop := ∀ c, c < p.2.2.1 → p.2.2.2.2.2.1 c = 1 ∨ p.2.2.2.2.2.1 c = 2
theorem pi_ok.st {p : pi_P} (h : pi_ok p) {c : Nat} (hc : c < p.2.2.1) : p.2.2.2.2.2.1 c = nI (pi_st p c) := by
  unfold pi_st
  rcases h c hc with q | q
  · rw [if_pos q, q]; rfl
  · rw [if_neg (by rw [q]; decide), q]; rfl
theorem pi_st_in (p : pi_P) (c : Nat) : 1 ≤ pi_st p c ∧ pi_st p c ≤ 2 := by unfold pi_st; split <;> omega
theorem pi_st_lt {p : pi_P} {c i w : Nat} (h : i < pi_on p c w) : i * pi_st p c < w := by
  unfold pi_on at h
  unfold pi_st
  split at h
  · rename_i q; rw [if_pos q]; omega
  · rename_i q; rw [if_neg q]; omega
def Cp (h : mj_H) (r : by_B) (a l t s m : Nat) (p : pi_P) : Prop := h[3]? = some co_o ∧ By h 4 5 384 r ∧ Pi h a l t s m p ∧ (17 ≤ a ∧ 17 ≤ l ∧ 17 ≤ t ∧ 17 ≤ s ∧ 17 ≤ m) ∧ pi_ok p
theorem By.pic {h : mj_H} {x y n a l t s m : Nat} {b b' : by_B} {p : pi_P} (B : By h x y n b) (P : Pi h a l t s m p) (hx : x < 17) (hy : y < 17) (hz : 17 ≤ a ∧ 17 ≤ l ∧ 17 ≤ t ∧ 17 ≤ s ∧ 17 ≤ m) : Pi (by_up h x y n b') a l t s m p := by
  obtain ⟨h1, h2, h3, h4, h5, h6⟩ := P
  have f : ∀ i, 17 ≤ i → (by_up h x y n b')[i]? = h[i]? := fun i hi => by
    unfold by_up
    rw [List.getElem?_set_ne (by omega), List.getElem?_set_ne (by omega)]
  exact ⟨by rw [f _ hz.1]; exact h1, by rw [f _ hz.2.1]; exact h2, by rw [f _ hz.2.2.1]; exact h3, by rw [f _ hz.2.2.2.1]; exact h4, by rw [f _ hz.2.2.2.2]; exact h5, h6⟩
theorem Cp.up {h : mj_H} {r r' : by_B} {a l t s m : Nat} {p : pi_P} (C : Cp h r a l t s m p) (hr : r'.1 ≤ 384) : Cp (by_up h 4 5 384 r') r' a l t s m p :=
  ⟨C.2.1.keep C.1 (by decide), C.2.1.up hr, C.2.1.pic C.2.2.1 (by decide) (by decide) C.2.2.2.1, C.2.2.2.1, C.2.2.2.2⟩
/-- a line of a channel, from its place i on, behind the number bf -/
def co_ln (p : pi_P) (c y k : Nat) (df : Int32) : Nat → Nat → Int32 → by_B → by_B
  | 0, _, _, r => r
  | j + 1, i, bf, r => co_ln p c y k df j (i + 1) (if rf_by (p.2.2.2.2.1 c) k = 3 then sa_short (p.2.2.2.2.2.2 (64 * c + 8 * y + i * pi_st p c)) else p.2.2.2.2.2.2 (64 * c + 8 * y + i * pi_st p c)) (by_addN 384 (if df = 0 then (if rf_by (p.2.2.2.2.1 c) k = 3 then sa_short (p.2.2.2.2.2.2 (64 * c + 8 * y + i * pi_st p c)) else p.2.2.2.2.2.2 (64 * c + 8 * y + i * pi_st p c)) else (if rf_by (p.2.2.2.2.1 c) k = 3 then sa_short (p.2.2.2.2.2.2 (64 * c + 8 * y + i * pi_st p c)) else p.2.2.2.2.2.2 (64 * c + 8 * y + i * pi_st p c)) - bf) (rf_by (p.2.2.2.2.1 c) k) 0 r)
theorem co_ln_le (p : pi_P) (c y k : Nat) (df : Int32) : ∀ (j i : Nat) (bf : Int32) (r : by_B), r.1 ≤ 384 → (co_ln p c y k df j i bf r).1 ≤ 384
  | 0, _, _, _, h => h
  | j + 1, i, bf, r, h => co_ln_le p c y k df j (i + 1) _ _ (by_addN_le _ _ _ _ h)
theorem rf_by_in (t : Int32) (k : Nat) : 2 ≤ rf_by t k ∧ rf_by t k ≤ 4 := by unfold rf_by; split; split; all_goals omega
set_option maxRecDepth 100000 in
set_option maxHeartbeats 4000000 in
theorem lp_Co_putLine {Q : mj_E → mj_H → Prop} {a l t s m : Nat} {p : pi_P} {c y k kc ks : Nat} {df : Int32} (hc : c < p.2.2.1) (hy : y < 8) (hp : p.1 ≤ 8) : ∀ (j i : Nat) (bf : Int32) (r : by_B) (h : mj_H), Cp h r a l t s m p → i + j = pi_on p c p.1 → mj_W M_Co_putLine Q (2, 44, none) kc ks 102 [some (.ref 3), some (.ref a), some (.int (nI c)), some (.int (nI y)), some (.int (nI k)), some (.int df), some (.int (nI (rf_by (p.2.2.2.2.1 c) k))), some (.int (nI (pi_on p c p.1))), none, none, none, none] [] (by_up h 4 5 384 (co_ln p c y k df j i bf r)) → mj_W M_Co_putLine Q (2, 44, none) kc ks 26 [some (.ref 3), some (.ref a), some (.int (nI c)), some (.int (nI y)), some (.int (nI k)), some (.int df), some (.int (nI (rf_by (p.2.2.2.2.1 c) k))), some (.int (nI (pi_on p c p.1))), some (.int bf), some (.int (nI i)), none, none] [] h := by
  intro j
  induction j with
  | zero =>
    intro i bf r h C hi kk
    obtain ⟨c0, ⟨b1, b2, b3, b4⟩, ⟨h1, h2, h3, h4, h5, ⟨n1, n2, n3, n4, n5, n6⟩, w1, w2, w3⟩, ⟨z1, z2, z3, z4, z5⟩, hok⟩ := id C
    have hon : pi_on p c p.1 ≤ 8 := by unfold pi_on; split <;> omega
    refine mj_iload d_Co_putLine_26 rfl ?_
    refine mj_iload d_Co_putLine_28 rfl ?_
    refine mj_icmp_ge (tgt := 102) d_Co_putLine_30 (by decide) (fun c_30 => ?_) (fun c_30 => ?_)
    · refine mj_fg 8 (L' := [some (.ref 3), some (.ref a), some (.int (nI c)), some (.int (nI y)), some (.int (nI k)), some (.int df), some (.int (nI (rf_by (p.2.2.2.2.1 c) k))), some (.int (nI (pi_on p c p.1))), none, some (.int (nI i)), none, none]) rfl ?_
      refine mj_fg 9 (L' := [some (.ref 3), some (.ref a), some (.int (nI c)), some (.int (nI y)), some (.int (nI k)), some (.int df), some (.int (nI (rf_by (p.2.2.2.2.1 c) k))), some (.int (nI (pi_on p c p.1))), none, none, none, none]) rfl ?_
      rw [show co_ln p c y k df 0 i bf r = r from rfl, C.2.1.idn] at kk
      exact kk
    · exact absurd (nI_le (by omega) (by omega)) c_30
  | succ j ih =>
    intro i bf r h C hi kk
    obtain ⟨c0, ⟨b1, b2, b3, b4⟩, ⟨h1, h2, h3, h4, h5, ⟨n1, n2, n3, n4, n5, n6⟩, w1, w2, w3⟩, ⟨z1, z2, z3, z4, z5⟩, hok⟩ := id C
    have hon : pi_on p c p.1 ≤ 8 := by unfold pi_on; split <;> omega
    refine mj_iload d_Co_putLine_26 rfl ?_
    refine mj_iload d_Co_putLine_28 rfl ?_
    refine mj_icmp_ge (tgt := 102) d_Co_putLine_30 (by decide) (fun c_30 => ?_) (fun c_30 => ?_)
    · exact absurd c_30 (nI_ge (by omega) (by unfold pi_on; split <;> omega))
    · have hi : i < pi_on p c p.1 := by omega
      have hx := pi_st_lt hi
      have hs := pi_st_in p c
      have hby := rf_by_in (p.2.2.2.2.1 c) k
      refine mj_aload_n d_Co_putLine_33 rfl ?_
      refine mj_iload_n d_Co_putLine_34 rfl ?_
      refine mj_iload d_Co_putLine_35 rfl ?_
      refine mj_aload_n d_Co_putLine_37 rfl ?_
      refine mj_get ok_Pi (k := 5) (by decide) fl_Co_98 d_Co_putLine_38 h1 rfl ?_
      refine mj_iload_n d_Co_putLine_41 rfl ?_
      refine mj_iald d_Co_putLine_42 h4 (vp_in_nI (by omega) (by decide)) ?_
      refine mj_imul d_Co_putLine_43 ?_
      refine mj_iload_n d_Co_putLine_44 rfl ?_
      rw [nI_clamp (by omega), hok.st hc, pk_mul]
      refine mj_cV (S := []) (S1 := [.int (p.2.2.2.2.2.2 (64 * c + 8 * y + i * pi_st p c))]) (c_Pi_at C.2.2.1 (c := c) (x := i * pi_st p c) (y := y) (by omega) (by omega) (by omega)) d_Co_putLine_45 cw_Pi_at ml_Co_101 im_Pi_at se_Pi_at rfl h1 (by decide) rfl (Nat.le_of_ble_eq_true rfl) rfl rfl ?_
      obtain ⟨b0, e_b0⟩ : ∃ q_ : Int32, q_ = p.2.2.2.2.2.2 (64 * c + 8 * y + i * pi_st p c) := ⟨_, rfl⟩
      rw [← e_b0]
      refine mj_istore (L' := [some (.ref 3), some (.ref a), some (.int (nI c)), some (.int (nI y)), some (.int (nI k)), some (.int df), some (.int (nI (rf_by (p.2.2.2.2.1 c) k))), some (.int (nI (pi_on p c p.1))), some (.int bf), some (.int (nI i)), some (.int b0), none]) d_Co_putLine_48 (by decide) rfl rfl ?_
      refine mj_iload d_Co_putLine_50 rfl ?_
      refine mj_iconst (v := 3) d_Co_putLine_52 (by decide) ?_
      refine mj_icmp_ne (tgt := 64) d_Co_putLine_53 (by decide) (fun c_53 => ?_) (fun c_53 => ?_)
      · refine mj_iload d_Co_putLine_64 rfl ?_
        rw [show (3 : Int32) = nI 3 from rfl] at c_53
        have g3 : ¬ rf_by (p.2.2.2.2.1 c) k = 3 := fun q => c_53 (by rw [q])
        obtain ⟨v0, e_v0⟩ : ∃ q_ : Int32, q_ = b0 := ⟨_, rfl⟩
        rw [← e_v0]
        have ev : v0 = (if rf_by (p.2.2.2.2.1 c) k = 3 then sa_short (p.2.2.2.2.2.2 (64 * c + 8 * y + i * pi_st p c)) else p.2.2.2.2.2.2 (64 * c + 8 * y + i * pi_st p c)) := by rw [if_neg g3, e_v0, e_b0]
        refine mj_istore (L' := [some (.ref 3), some (.ref a), some (.int (nI c)), some (.int (nI y)), some (.int (nI k)), some (.int df), some (.int (nI (rf_by (p.2.2.2.2.1 c) k))), some (.int (nI (pi_on p c p.1))), some (.int bf), some (.int (nI i)), some (.int v0), some (.int v0)]) d_Co_putLine_66 (by decide) rfl rfl ?_
        refine mj_aload_n d_Co_putLine_68 rfl ?_
        refine mj_get ok_Co (k := 0) (by decide) fl_Co_14 d_Co_putLine_69 c0 rfl ?_
        refine mj_iload d_Co_putLine_72 rfl ?_
        refine mj_if_eq (tgt := 85) d_Co_putLine_74 (by decide) (fun c_74 => ?_) (fun c_74 => ?_)
        · refine mj_iload d_Co_putLine_85 rfl ?_
          refine mj_iload d_Co_putLine_87 rfl ?_
          refine mj_cV (S := []) (S1 := []) (c_By_addNumber C.2.1 _ (rf_by (p.2.2.2.2.1 c) k) (by omega)) d_Co_putLine_89 cw_By_addNumber ml_Co_110 im_By_addNumber se_By_addNumber rfl b1 (by decide) rfl (Nat.le_of_ble_eq_true rfl) rfl rfl ?_
          refine mj_iload d_Co_putLine_92 rfl ?_
          refine mj_istore (L' := [some (.ref 3), some (.ref a), some (.int (nI c)), some (.int (nI y)), some (.int (nI k)), some (.int df), some (.int (nI (rf_by (p.2.2.2.2.1 c) k))), some (.int (nI (pi_on p c p.1))), some (.int v0), some (.int (nI i)), some (.int v0), some (.int v0)]) d_Co_putLine_94 (by decide) rfl rfl ?_
          obtain ⟨v1, e_v1⟩ : ∃ q_ : Int32, q_ = (nI i) + 1 := ⟨_, rfl⟩
          refine mj_iinc (x := (nI i)) (v := v1) (L' := [some (.ref 3), some (.ref a), some (.int (nI c)), some (.int (nI y)), some (.int (nI k)), some (.int df), some (.int (nI (rf_by (p.2.2.2.2.1 c) k))), some (.int (nI (pi_on p c p.1))), some (.int v0), some (.int v1), some (.int v0), some (.int v0)]) d_Co_putLine_96 rfl (by rw [e_v1]; rfl) (by decide) rfl rfl ?_
          refine mj_goto (tgt := 26) d_Co_putLine_99 (by decide) ?_
          rw [e_v1, nI_1]
          refine mj_fg 10 (L' := [some (.ref 3), some (.ref a), some (.int (nI c)), some (.int (nI y)), some (.int (nI k)), some (.int df), some (.int (nI (rf_by (p.2.2.2.2.1 c) k))), some (.int (nI (pi_on p c p.1))), some (.int v0), some (.int (nI (i + 1))), none, some (.int v0)]) rfl ?_
          refine mj_fg 11 (L' := [some (.ref 3), some (.ref a), some (.int (nI c)), some (.int (nI y)), some (.int (nI k)), some (.int df), some (.int (nI (rf_by (p.2.2.2.2.1 c) k))), some (.int (nI (pi_on p c p.1))), some (.int v0), some (.int (nI (i + 1))), none, none]) rfl ?_
          refine ih (i + 1) v0 _ _ (C.up (by_addN_le _ _ _ _ b3)) (by omega) ?_
          rw [C.2.1.upup]
          rw [show co_ln p c y k df (j + 1) i bf r = co_ln p c y k df j (i + 1) v0 (by_addN 384 (v0) (rf_by (p.2.2.2.2.1 c) k) 0 r) by rw [co_ln, if_pos c_74, ← ev]] at kk
          exact kk
        · refine mj_iload d_Co_putLine_77 rfl ?_
          refine mj_iload d_Co_putLine_79 rfl ?_
          refine mj_isub d_Co_putLine_81 ?_
          refine mj_goto (tgt := 87) d_Co_putLine_82 (by decide) ?_
          refine mj_iload d_Co_putLine_87 rfl ?_
          refine mj_cV (S := []) (S1 := []) (c_By_addNumber C.2.1 _ (rf_by (p.2.2.2.2.1 c) k) (by omega)) d_Co_putLine_89 cw_By_addNumber ml_Co_110 im_By_addNumber se_By_addNumber rfl b1 (by decide) rfl (Nat.le_of_ble_eq_true rfl) rfl rfl ?_
          refine mj_iload d_Co_putLine_92 rfl ?_
          refine mj_istore (L' := [some (.ref 3), some (.ref a), some (.int (nI c)), some (.int (nI y)), some (.int (nI k)), some (.int df), some (.int (nI (rf_by (p.2.2.2.2.1 c) k))), some (.int (nI (pi_on p c p.1))), some (.int v0), some (.int (nI i)), some (.int v0), some (.int v0)]) d_Co_putLine_94 (by decide) rfl rfl ?_
          obtain ⟨v2, e_v2⟩ : ∃ q_ : Int32, q_ = (nI i) + 1 := ⟨_, rfl⟩
          refine mj_iinc (x := (nI i)) (v := v2) (L' := [some (.ref 3), some (.ref a), some (.int (nI c)), some (.int (nI y)), some (.int (nI k)), some (.int df), some (.int (nI (rf_by (p.2.2.2.2.1 c) k))), some (.int (nI (pi_on p c p.1))), some (.int v0), some (.int v2), some (.int v0), some (.int v0)]) d_Co_putLine_96 rfl (by rw [e_v2]; rfl) (by decide) rfl rfl ?_
          refine mj_goto (tgt := 26) d_Co_putLine_99 (by decide) ?_
          rw [e_v2, nI_1]
          refine mj_fg 10 (L' := [some (.ref 3), some (.ref a), some (.int (nI c)), some (.int (nI y)), some (.int (nI k)), some (.int df), some (.int (nI (rf_by (p.2.2.2.2.1 c) k))), some (.int (nI (pi_on p c p.1))), some (.int v0), some (.int (nI (i + 1))), none, some (.int v0)]) rfl ?_
          refine mj_fg 11 (L' := [some (.ref 3), some (.ref a), some (.int (nI c)), some (.int (nI y)), some (.int (nI k)), some (.int df), some (.int (nI (rf_by (p.2.2.2.2.1 c) k))), some (.int (nI (pi_on p c p.1))), some (.int v0), some (.int (nI (i + 1))), none, none]) rfl ?_
          refine ih (i + 1) v0 _ _ (C.up (by_addN_le _ _ _ _ b3)) (by omega) ?_
          rw [C.2.1.upup]
          rw [show co_ln p c y k df (j + 1) i bf r = co_ln p c y k df j (i + 1) v0 (by_addN 384 (v0 - bf) (rf_by (p.2.2.2.2.1 c) k) 0 r) by rw [co_ln, if_neg c_74, ← ev]] at kk
          exact kk
      · refine mj_iload d_Co_putLine_56 rfl ?_
        refine mj_cS (S := []) (S1 := [.int (sa_short b0)]) (c_Sa_shorten b0) d_Co_putLine_58 cw_Sa_shorten ml_Co_105 st_Sa_shorten (by decide) rfl (Nat.le_of_ble_eq_true rfl) rfl rfl ?_
        refine mj_goto (tgt := 66) d_Co_putLine_61 (by decide) ?_
        rw [show (3 : Int32) = nI 3 from rfl] at c_53
        have g3 : rf_by (p.2.2.2.2.1 c) k = 3 := by rw [nI_eq (by omega) (by decide)] at c_53; exact c_53
        obtain ⟨v0, e_v0⟩ : ∃ q_ : Int32, q_ = sa_short b0 := ⟨_, rfl⟩
        rw [← e_v0]
        have ev : v0 = (if rf_by (p.2.2.2.2.1 c) k = 3 then sa_short (p.2.2.2.2.2.2 (64 * c + 8 * y + i * pi_st p c)) else p.2.2.2.2.2.2 (64 * c + 8 * y + i * pi_st p c)) := by rw [if_pos g3, e_v0, e_b0]
        refine mj_istore (L' := [some (.ref 3), some (.ref a), some (.int (nI c)), some (.int (nI y)), some (.int (nI k)), some (.int df), some (.int (nI (rf_by (p.2.2.2.2.1 c) k))), some (.int (nI (pi_on p c p.1))), some (.int bf), some (.int (nI i)), some (.int b0), some (.int v0)]) d_Co_putLine_66 (by decide) rfl rfl ?_
        refine mj_aload_n d_Co_putLine_68 rfl ?_
        refine mj_get ok_Co (k := 0) (by decide) fl_Co_14 d_Co_putLine_69 c0 rfl ?_
        refine mj_iload d_Co_putLine_72 rfl ?_
        refine mj_if_eq (tgt := 85) d_Co_putLine_74 (by decide) (fun c_74 => ?_) (fun c_74 => ?_)
        · refine mj_iload d_Co_putLine_85 rfl ?_
          refine mj_iload d_Co_putLine_87 rfl ?_
          refine mj_cV (S := []) (S1 := []) (c_By_addNumber C.2.1 _ (rf_by (p.2.2.2.2.1 c) k) (by omega)) d_Co_putLine_89 cw_By_addNumber ml_Co_110 im_By_addNumber se_By_addNumber rfl b1 (by decide) rfl (Nat.le_of_ble_eq_true rfl) rfl rfl ?_
          refine mj_iload d_Co_putLine_92 rfl ?_
          refine mj_istore (L' := [some (.ref 3), some (.ref a), some (.int (nI c)), some (.int (nI y)), some (.int (nI k)), some (.int df), some (.int (nI (rf_by (p.2.2.2.2.1 c) k))), some (.int (nI (pi_on p c p.1))), some (.int v0), some (.int (nI i)), some (.int b0), some (.int v0)]) d_Co_putLine_94 (by decide) rfl rfl ?_
          obtain ⟨v3, e_v3⟩ : ∃ q_ : Int32, q_ = (nI i) + 1 := ⟨_, rfl⟩
          refine mj_iinc (x := (nI i)) (v := v3) (L' := [some (.ref 3), some (.ref a), some (.int (nI c)), some (.int (nI y)), some (.int (nI k)), some (.int df), some (.int (nI (rf_by (p.2.2.2.2.1 c) k))), some (.int (nI (pi_on p c p.1))), some (.int v0), some (.int v3), some (.int b0), some (.int v0)]) d_Co_putLine_96 rfl (by rw [e_v3]; rfl) (by decide) rfl rfl ?_
          refine mj_goto (tgt := 26) d_Co_putLine_99 (by decide) ?_
          rw [e_v3, nI_1]
          refine mj_fg 10 (L' := [some (.ref 3), some (.ref a), some (.int (nI c)), some (.int (nI y)), some (.int (nI k)), some (.int df), some (.int (nI (rf_by (p.2.2.2.2.1 c) k))), some (.int (nI (pi_on p c p.1))), some (.int v0), some (.int (nI (i + 1))), none, some (.int v0)]) rfl ?_
          refine mj_fg 11 (L' := [some (.ref 3), some (.ref a), some (.int (nI c)), some (.int (nI y)), some (.int (nI k)), some (.int df), some (.int (nI (rf_by (p.2.2.2.2.1 c) k))), some (.int (nI (pi_on p c p.1))), some (.int v0), some (.int (nI (i + 1))), none, none]) rfl ?_
          refine ih (i + 1) v0 _ _ (C.up (by_addN_le _ _ _ _ b3)) (by omega) ?_
          rw [C.2.1.upup]
          rw [show co_ln p c y k df (j + 1) i bf r = co_ln p c y k df j (i + 1) v0 (by_addN 384 (v0) (rf_by (p.2.2.2.2.1 c) k) 0 r) by rw [co_ln, if_pos c_74, ← ev]] at kk
          exact kk
        · refine mj_iload d_Co_putLine_77 rfl ?_
          refine mj_iload d_Co_putLine_79 rfl ?_
          refine mj_isub d_Co_putLine_81 ?_
          refine mj_goto (tgt := 87) d_Co_putLine_82 (by decide) ?_
          refine mj_iload d_Co_putLine_87 rfl ?_
          refine mj_cV (S := []) (S1 := []) (c_By_addNumber C.2.1 _ (rf_by (p.2.2.2.2.1 c) k) (by omega)) d_Co_putLine_89 cw_By_addNumber ml_Co_110 im_By_addNumber se_By_addNumber rfl b1 (by decide) rfl (Nat.le_of_ble_eq_true rfl) rfl rfl ?_
          refine mj_iload d_Co_putLine_92 rfl ?_
          refine mj_istore (L' := [some (.ref 3), some (.ref a), some (.int (nI c)), some (.int (nI y)), some (.int (nI k)), some (.int df), some (.int (nI (rf_by (p.2.2.2.2.1 c) k))), some (.int (nI (pi_on p c p.1))), some (.int v0), some (.int (nI i)), some (.int b0), some (.int v0)]) d_Co_putLine_94 (by decide) rfl rfl ?_
          obtain ⟨v4, e_v4⟩ : ∃ q_ : Int32, q_ = (nI i) + 1 := ⟨_, rfl⟩
          refine mj_iinc (x := (nI i)) (v := v4) (L' := [some (.ref 3), some (.ref a), some (.int (nI c)), some (.int (nI y)), some (.int (nI k)), some (.int df), some (.int (nI (rf_by (p.2.2.2.2.1 c) k))), some (.int (nI (pi_on p c p.1))), some (.int v0), some (.int v4), some (.int b0), some (.int v0)]) d_Co_putLine_96 rfl (by rw [e_v4]; rfl) (by decide) rfl rfl ?_
          refine mj_goto (tgt := 26) d_Co_putLine_99 (by decide) ?_
          rw [e_v4, nI_1]
          refine mj_fg 10 (L' := [some (.ref 3), some (.ref a), some (.int (nI c)), some (.int (nI y)), some (.int (nI k)), some (.int df), some (.int (nI (rf_by (p.2.2.2.2.1 c) k))), some (.int (nI (pi_on p c p.1))), some (.int v0), some (.int (nI (i + 1))), none, some (.int v0)]) rfl ?_
          refine mj_fg 11 (L' := [some (.ref 3), some (.ref a), some (.int (nI c)), some (.int (nI y)), some (.int (nI k)), some (.int df), some (.int (nI (rf_by (p.2.2.2.2.1 c) k))), some (.int (nI (pi_on p c p.1))), some (.int v0), some (.int (nI (i + 1))), none, none]) rfl ?_
          refine ih (i + 1) v0 _ _ (C.up (by_addN_le _ _ _ _ b3)) (by omega) ?_
          rw [C.2.1.upup]
          rw [show co_ln p c y k df (j + 1) i bf r = co_ln p c y k df j (i + 1) v0 (by_addN 384 (v0 - bf) (rf_by (p.2.2.2.2.1 c) k) 0 r) by rw [co_ln, if_neg c_74, ← ev]] at kk
          exact kk
set_option maxRecDepth 100000 in
set_option maxHeartbeats 4000000 in
theorem c_Co_putLine {h : mj_H} {r : by_B} {a l t s m : Nat} {p : pi_P} (C : Cp h r a l t s m p) {c y k : Nat} (df : Int32) (hc : c < p.2.2.1) (hy : y < 8) (hk : k < 4) : mj_Met M_Co_putLine (2, 44, none) 0 0 [.ref 3, .ref a, .int (nI c), .int (nI y), .int (nI k), .int df] h (mj_q none (by_up h 4 5 384 (co_ln p c y k df (pi_on p c p.1) 0 0 r))) := by
  obtain ⟨c0, ⟨b1, b2, b3, b4⟩, ⟨h1, h2, h3, h4, h5, ⟨n1, n2, n3, n4, n5, n6⟩, w1, w2, w3⟩, ⟨z1, z2, z3, z4, z5⟩, hok⟩ := id C
  refine mj_enter (r := 6) rfl rfl (by decide) rfl ?_
  show mj_W M_Co_putLine _ _ _ _ 0 [some (.ref 3), some (.ref a), some (.int (nI c)), some (.int (nI y)), some (.int (nI k)), some (.int df), none, none, none, none, none, none] [] h
  refine mj_aload_n d_Co_putLine_0 rfl ?_
  refine mj_get ok_Pi (k := 4) (by decide) fl_Co_87 d_Co_putLine_1 h1 rfl ?_
  refine mj_iload_n d_Co_putLine_4 rfl ?_
  refine mj_iald d_Co_putLine_5 h3 (vp_in_nI (by omega) (by decide)) ?_
  refine mj_iload d_Co_putLine_6 rfl ?_
  rw [nI_clamp (by omega)]
  refine mj_cSN (S := []) (S1 := [.int (rf_bytes (p.2.2.2.2.1 c) (nI k))]) (c_RF_bytesOfSample _ _) d_Co_putLine_8 cw_RF_bytesOfSample mn_Co_91 st_RF_bytesOfSample (by decide) rfl (Nat.le_of_ble_eq_true rfl) rfl rfl ?_
  rw [rf_bytes_by _ hk]
  refine mj_istore (L' := [some (.ref 3), some (.ref a), some (.int (nI c)), some (.int (nI y)), some (.int (nI k)), some (.int df), some (.int (nI (rf_by (p.2.2.2.2.1 c) k))), none, none, none, none, none]) d_Co_putLine_11 (by decide) rfl rfl ?_
  refine mj_aload_n d_Co_putLine_13 rfl ?_
  refine mj_iload_n d_Co_putLine_14 rfl ?_
  refine mj_cV (S := []) (S1 := [.int (nI (pi_on p c p.1))]) (c_Pi_columns C.2.2.1 (c := c) (by omega)) d_Co_putLine_15 cw_Pi_columns ml_Co_94 im_Pi_columns se_Pi_columns rfl h1 (by decide) rfl (Nat.le_of_ble_eq_true rfl) rfl rfl ?_
  refine mj_istore (L' := [some (.ref 3), some (.ref a), some (.int (nI c)), some (.int (nI y)), some (.int (nI k)), some (.int df), some (.int (nI (rf_by (p.2.2.2.2.1 c) k))), some (.int (nI (pi_on p c p.1))), none, none, none, none]) d_Co_putLine_18 (by decide) rfl rfl ?_
  refine mj_iconst (v := 0) d_Co_putLine_20 (by decide) ?_
  refine mj_istore (L' := [some (.ref 3), some (.ref a), some (.int (nI c)), some (.int (nI y)), some (.int (nI k)), some (.int df), some (.int (nI (rf_by (p.2.2.2.2.1 c) k))), some (.int (nI (pi_on p c p.1))), some (.int 0), none, none, none]) d_Co_putLine_21 (by decide) rfl rfl ?_
  refine mj_iconst (v := 0) d_Co_putLine_23 (by decide) ?_
  refine mj_istore (L' := [some (.ref 3), some (.ref a), some (.int (nI c)), some (.int (nI y)), some (.int (nI k)), some (.int df), some (.int (nI (rf_by (p.2.2.2.2.1 c) k))), some (.int (nI (pi_on p c p.1))), some (.int 0), some (.int 0), none, none]) d_Co_putLine_24 (by decide) rfl rfl ?_
  refine lp_Co_putLine hc hy w1 (pi_on p c p.1) 0 0 r h C (by omega) ?_
  exact mj_vret rfl d_Co_putLine_102 ⟨rfl, rfl⟩
