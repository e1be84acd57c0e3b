/-! Packer -/
theorem mj_neO {h : mj_H} {a b i j : Nat} {x y : List Value} (ha : h[a]? = some (.inr (i, x))) (hb : h[b]? = some (.inr (j, y))) (hn : i ≠ j) : a ≠ b := by
  intro q
  rw [q, hb] at ha
  cases ha
  exact hn rfl
theorem By.keep {h : mj_H} {a c n x : Nat} {b b' : by_B} {y : Nat × List Value} (B : By h a c n b) (hx : h[x]? = some (.inr y)) (hn : x ≠ a) : (by_up h a c n b')[x]? = some (.inr y) := mj_sN (Ne.symm (mj_ne hx B.2.1)) (mj_sN (Ne.symm hn) hx)
def Pk (h : mj_H) (a sa sc : Nat) (b : by_B) : Prop := h[a]? = some (.inr (3, [.ref sa])) ∧ By h sa sc 384 b
theorem Pk.ne {h : mj_H} {a sa sc : Nat} {b : by_B} (K : Pk h a sa sc b) : a ≠ sa := mj_neO K.1 K.2.1 (by decide)
theorem Pk.up {h : mj_H} {a sa sc : Nat} {b b' : by_B} (K : Pk h a sa sc b) (hb : b'.1 ≤ 384) : Pk (by_up h sa sc 384 b') a sa sc b' := ⟨K.2.keep K.1 K.ne, K.2.up hb⟩
theorem Pk.oth {h : mj_H} {a sa sc ta tc n : Nat} {b b2 b' : by_B} (K : Pk h a sa sc b) (B : By h ta tc n b2) (h1 : ta ≠ sa) (h2 : tc ≠ sc) : Pk (by_up h ta tc n b') a sa sc b := ⟨B.keep K.1 (mj_neO K.1 B.1 (by decide)), B.oth K.2 h1 h2⟩
abbrev pa_alC (b : by_B) (pl e : Nat) : Prop := e < b.1 ∧ e - pl < 128 ∧ by_get b (nI e) = by_get b (nI pl)
def pa_alE (b : by_B) (pl : Nat) : Nat → Nat → Nat
  | 0, e => e
  | n + 1, e => if pa_alC b pl e then pa_alE b pl n (e + 1) else e
def pa_al (b : by_B) (pl : Nat) : Nat := pa_alE b pl b.1 (pl + 1) - pl
theorem pa_alE_ge (b : by_B) (pl : Nat) : ∀ n e, e ≤ pa_alE b pl n e
  | 0, e => Nat.le_refl e
  | n + 1, e => by
    rw [pa_alE]
    split
    · exact Nat.le_trans (Nat.le_succ e) (pa_alE_ge b pl n (e + 1))
    · exact Nat.le_refl e
theorem pa_alE_le (b : by_B) (pl : Nat) : ∀ n e, e ≤ b.1 ∨ pa_alE b pl n e = e → pa_alE b pl n e ≤ b.1 ∨ pa_alE b pl n e = e
  | 0, e, h => Or.inr rfl
  | n + 1, e, h => by
    rw [pa_alE]
    split
    · rename_i q
      rcases pa_alE_le b pl n (e + 1) (Or.inl q.1) with r | r
      · exact Or.inl r
      · rw [r]; exact Or.inl q.1
    · exact Or.inr rfl
abbrev pa_unC (b : by_B) (pl e : Nat) : Prop := e < b.1 ∧ e - pl < 127 ∧ pa_al b e < 3
def pa_unE (b : by_B) (pl : Nat) : Nat → Nat → Nat
  | 0, e => e
  | n + 1, e => if pa_unC b pl e then pa_unE b pl n (e + 1) else e
def pa_un (b : by_B) (pl : Nat) : Nat := pa_unE b pl b.1 (pl + 1)
theorem pa_unE_ge (b : by_B) (pl : Nat) : ∀ n e, e ≤ pa_unE b pl n e
  | 0, e => Nat.le_refl e
  | n + 1, e => by
    rw [pa_unE]
    split
    · exact Nat.le_trans (Nat.le_succ e) (pa_unE_ge b pl n (e + 1))
    · exact Nat.le_refl e
theorem pa_unE_le (b : by_B) (pl : Nat) : ∀ n e, pa_unE b pl n e ≤ b.1 ∨ pa_unE b pl n e = e
  | 0, e => Or.inr rfl
  | n + 1, e => by
    rw [pa_unE]
    split
    · rename_i q
      rcases pa_unE_le b pl n (e + 1) with r | r
      · exact Or.inl r
      · rw [r]; exact Or.inl q.1
    · exact Or.inr rfl
set_option maxRecDepth 100000 in
set_option maxHeartbeats 4000000 in
theorem lp_Pa_alikeFrom {Q : mj_E → mj_H → Prop} {h : mj_H} {a sa sc : Nat} {b : by_B} (K : Pk h a sa sc b) {pl kc ks : Nat} : ∀ (n e : Nat), b.1 ≤ e + n → pl < e → e < 2 ^ 30 → mj_W M_Pa_alikeFrom Q (1, 21, none) kc ks 49 [some (.ref a), some (.int (nI pl)), some (.int (nI (pa_alE b pl n e)))] [] h → mj_W M_Pa_alikeFrom Q (1, 21, none) kc ks 4 [some (.ref a), some (.int (nI pl)), some (.int (nI e))] [] h := by
  intro n
  induction n with
  | zero =>
    intro e hn hpl he kk
    obtain ⟨h0, h1, h2, h3, h4⟩ := id K
    refine mj_iload_n d_Pa_alikeFrom_4 rfl ?_
    refine mj_aload_n d_Pa_alikeFrom_5 rfl ?_
    refine mj_get ok_Pa (k := 0) (by decide) fl_Pa_14 d_Pa_alikeFrom_6 h0 rfl ?_
    refine mj_get ok_By (k := 1) (by decide) fl_Pa_24 d_Pa_alikeFrom_9 h1 rfl ?_
    refine mj_icmp_ge (tgt := 49) d_Pa_alikeFrom_12 (by decide) (fun c_12 => ?_) (fun c_12 => ?_)
    · rw [show pa_alE b pl 0 e = e from rfl] at kk
      exact kk
    · exact absurd (nI_le (by omega) (by omega)) c_12
  | succ n ih =>
    intro e hn hpl he kk
    obtain ⟨h0, h1, h2, h3, h4⟩ := id K
    refine mj_iload_n d_Pa_alikeFrom_4 rfl ?_
    refine mj_aload_n d_Pa_alikeFrom_5 rfl ?_
    refine mj_get ok_Pa (k := 0) (by decide) fl_Pa_14 d_Pa_alikeFrom_6 h0 rfl ?_
    refine mj_get ok_By (k := 1) (by decide) fl_Pa_24 d_Pa_alikeFrom_9 h1 rfl ?_
    refine mj_icmp_ge (tgt := 49) d_Pa_alikeFrom_12 (by decide) (fun c_12 => ?_) (fun c_12 => ?_)
    · have g : ¬ pa_alC b pl e := fun q => nI_ge q.1 (by omega) c_12
      rw [show pa_alE b pl (n + 1) e = e by rw [pa_alE, if_neg g]] at kk
      exact kk
    · have hlt : e < b.1 := by
        rcases Nat.lt_or_ge (e) (b.1) with q | q
        · exact q
        · exact absurd (nI_le q (by omega)) c_12
      refine mj_iload_n d_Pa_alikeFrom_15 rfl ?_
      refine mj_iload_n d_Pa_alikeFrom_16 rfl ?_
      refine mj_isub d_Pa_alikeFrom_17 ?_
      refine mj_sipush (v := 128) d_Pa_alikeFrom_18 (by decide) ?_
      refine mj_icmp_ge (tgt := 49) d_Pa_alikeFrom_21 (by decide) (fun c_21 => ?_) (fun c_21 => ?_)
      · rw [pk_sub (by omega), show (128 : Int32) = nI 128 from rfl] at c_21
        have g : ¬ pa_alC b pl e := fun q => nI_ge q.2.1 (by omega) c_21
        rw [show pa_alE b pl (n + 1) e = e by rw [pa_alE, if_neg g]] at kk
        exact kk
      · rw [pk_sub (by omega), show (128 : Int32) = nI 128 from rfl] at c_21
        have hl2 : e - pl < 128 := by
          rcases Nat.lt_or_ge (e - pl) (128) with q | q
          · exact q
          · exact absurd (nI_le q (by omega)) c_21
        refine mj_aload_n d_Pa_alikeFrom_24 rfl ?_
        refine mj_get ok_Pa (k := 0) (by decide) fl_Pa_14 d_Pa_alikeFrom_25 h0 rfl ?_
        refine mj_iload_n d_Pa_alikeFrom_28 rfl ?_
        refine mj_cV (S := []) (S1 := [.int (by_get b (nI e))]) (c_By_at K.2 (nI e)) d_Pa_alikeFrom_29 cw_By_at ml_Pa_28 im_By_at se_By_at rfl h1 (by decide) rfl (Nat.le_of_ble_eq_true rfl) rfl rfl ?_
        refine mj_aload_n d_Pa_alikeFrom_32 rfl ?_
        refine mj_get ok_Pa (k := 0) (by decide) fl_Pa_14 d_Pa_alikeFrom_33 h0 rfl ?_
        refine mj_iload_n d_Pa_alikeFrom_36 rfl ?_
        refine mj_cV (S := [.int (by_get b (nI e))]) (S1 := [.int (by_get b (nI pl)), .int (by_get b (nI e))]) (c_By_at K.2 (nI pl)) d_Pa_alikeFrom_37 cw_By_at ml_Pa_28 im_By_at se_By_at rfl h1 (by decide) rfl (Nat.le_of_ble_eq_true rfl) rfl rfl ?_
        refine mj_icmp_ne (tgt := 49) d_Pa_alikeFrom_40 (by decide) (fun c_40 => ?_) (fun c_40 => ?_)
        · have g : ¬ pa_alC b pl e := fun q => c_40 q.2.2
          rw [show pa_alE b pl (n + 1) e = e by rw [pa_alE, if_neg g]] at kk
          exact kk
        · obtain ⟨v1, e_v1⟩ : ∃ q_ : Int32, q_ = (nI e) + 1 := ⟨_, rfl⟩
          refine mj_iinc (x := (nI e)) (v := v1) (L' := [some (.ref a), some (.int (nI pl)), some (.int v1)]) d_Pa_alikeFrom_43 rfl (by rw [e_v1]; rfl) (by decide) rfl rfl ?_
          refine mj_goto (tgt := 4) d_Pa_alikeFrom_46 (by decide) ?_
          rw [e_v1, nI_1]
          rw [show pa_alE b pl (n + 1) e = pa_alE b pl n (e + 1) by rw [pa_alE, if_pos ⟨hlt, hl2, c_40⟩]] at kk
          exact ih (e + 1) (by omega) (by omega) (by omega) kk
set_option maxRecDepth 100000 in
set_option maxHeartbeats 4000000 in
theorem c_Pa_alikeFrom {h : mj_H} {a sa sc : Nat} {b : by_B} (K : Pk h a sa sc b) {pl : Nat} (hpl : pl < 2 ^ 29) : mj_Met M_Pa_alikeFrom (1, 21, none) 0 0 [.ref a, .int (nI pl)] h (mj_q (some (.int (nI (pa_al b pl)))) h) := by
  obtain ⟨h0, h1, h2, h3, h4⟩ := id K
  refine mj_enter (r := 1) rfl rfl (by decide) rfl ?_
  show mj_W M_Pa_alikeFrom _ _ _ _ 0 [some (.ref a), some (.int (nI pl)), none] [] h
  refine mj_iload_n d_Pa_alikeFrom_0 rfl ?_
  refine mj_iconst (v := 1) d_Pa_alikeFrom_1 (by decide) ?_
  refine mj_iadd d_Pa_alikeFrom_2 ?_
  rw [nI_1]
  refine mj_istore_n (L' := [some (.ref a), some (.int (nI pl)), some (.int (nI (pl + 1)))]) d_Pa_alikeFrom_3 (by decide) rfl rfl ?_
  refine lp_Pa_alikeFrom K b.1 (pl + 1) (by omega) (by omega) (by omega) ?_
  refine mj_iload_n d_Pa_alikeFrom_49 rfl ?_
  refine mj_iload_n d_Pa_alikeFrom_50 rfl ?_
  refine mj_isub d_Pa_alikeFrom_51 ?_
  have g := pa_alE_ge b pl b.1 (pl + 1)
  exact mj_iret rfl d_Pa_alikeFrom_52 ⟨by rw [pk_sub (by omega)]; rfl, rfl⟩
set_option maxRecDepth 100000 in
set_option maxHeartbeats 4000000 in
theorem lp_Pa_endOfUnlike {Q : mj_E → mj_H → Prop} {h : mj_H} {a sa sc : Nat} {b : by_B} (K : Pk h a sa sc b) {pl kc ks : Nat} : ∀ (n e : Nat), b.1 ≤ e + n → pl < e → e < 2 ^ 28 → mj_W M_Pa_endOfUnlike Q (2, 43, none) kc ks 38 [some (.ref a), some (.int (nI pl)), some (.int (nI (pa_unE b pl n e)))] [] h → mj_W M_Pa_endOfUnlike Q (2, 43, none) kc ks 4 [some (.ref a), some (.int (nI pl)), some (.int (nI e))] [] h := by
  intro n
  induction n with
  | zero =>
    intro e hn hpl he kk
    obtain ⟨h0, h1, h2, h3, h4⟩ := id K
    refine mj_iload_n d_Pa_endOfUnlike_4 rfl ?_
    refine mj_aload_n d_Pa_endOfUnlike_5 rfl ?_
    refine mj_get ok_Pa (k := 0) (by decide) fl_Pa_14 d_Pa_endOfUnlike_6 h0 rfl ?_
    refine mj_get ok_By (k := 1) (by decide) fl_Pa_24 d_Pa_endOfUnlike_9 h1 rfl ?_
    refine mj_icmp_ge (tgt := 38) d_Pa_endOfUnlike_12 (by decide) (fun c_12 => ?_) (fun c_12 => ?_)
    · rw [show pa_unE b pl 0 e = e from rfl] at kk
      exact kk
    · exact absurd (nI_le (by omega) (by omega)) c_12
  | succ n ih =>
    intro e hn hpl he kk
    obtain ⟨h0, h1, h2, h3, h4⟩ := id K
    refine mj_iload_n d_Pa_endOfUnlike_4 rfl ?_
    refine mj_aload_n d_Pa_endOfUnlike_5 rfl ?_
    refine mj_get ok_Pa (k := 0) (by decide) fl_Pa_14 d_Pa_endOfUnlike_6 h0 rfl ?_
    refine mj_get ok_By (k := 1) (by decide) fl_Pa_24 d_Pa_endOfUnlike_9 h1 rfl ?_
    refine mj_icmp_ge (tgt := 38) d_Pa_endOfUnlike_12 (by decide) (fun c_12 => ?_) (fun c_12 => ?_)
    · have g : ¬ pa_unC b pl e := fun q => nI_ge q.1 (by omega) c_12
      rw [show pa_unE b pl (n + 1) e = e by rw [pa_unE, if_neg g]] at kk
      exact kk
    · have hlt : e < b.1 := by
        rcases Nat.lt_or_ge (e) (b.1) with q | q
        · exact q
        · exact absurd (nI_le q (by omega)) c_12
      refine mj_iload_n d_Pa_endOfUnlike_15 rfl ?_
      refine mj_iload_n d_Pa_endOfUnlike_16 rfl ?_
      refine mj_isub d_Pa_endOfUnlike_17 ?_
      refine mj_bipush (v := 127) d_Pa_endOfUnlike_18 (by decide) ?_
      refine mj_icmp_ge (tgt := 38) d_Pa_endOfUnlike_20 (by decide) (fun c_20 => ?_) (fun c_20 => ?_)
      · rw [pk_sub (by omega), show (127 : Int32) = nI 127 from rfl] at c_20
        have g : ¬ pa_unC b pl e := fun q => nI_ge q.2.1 (by omega) c_20
        rw [show pa_unE b pl (n + 1) e = e by rw [pa_unE, if_neg g]] at kk
        exact kk
      · rw [pk_sub (by omega), show (127 : Int32) = nI 127 from rfl] at c_20
        have hl2 : e - pl < 127 := by
          rcases Nat.lt_or_ge (e - pl) (127) with q | q
          · exact q
          · exact absurd (nI_le q (by omega)) c_20
        refine mj_aload_n d_Pa_endOfUnlike_23 rfl ?_
        refine mj_iload_n d_Pa_endOfUnlike_24 rfl ?_
        refine mj_cV (S := []) (S1 := [.int (nI (pa_al b e))]) (c_Pa_alikeFrom K (pl := e) (by omega)) d_Pa_endOfUnlike_25 cw_Pa_alikeFrom ml_Pa_39 im_Pa_alikeFrom se_Pa_alikeFrom rfl h0 (by decide) rfl (Nat.le_of_ble_eq_true rfl) rfl rfl ?_
        refine mj_iconst (v := 3) d_Pa_endOfUnlike_28 (by decide) ?_
        refine mj_icmp_ge (tgt := 38) d_Pa_endOfUnlike_29 (by decide) (fun c_29 => ?_) (fun c_29 => ?_)
        · have g : ¬ pa_unC b pl e := fun q => nI_ge q.2.2 (by decide) c_29
          rw [show pa_unE b pl (n + 1) e = e by rw [pa_unE, if_neg g]] at kk
          exact kk
        · obtain ⟨v1, e_v1⟩ : ∃ q_ : Int32, q_ = (nI e) + 1 := ⟨_, rfl⟩
          refine mj_iinc (x := (nI e)) (v := v1) (L' := [some (.ref a), some (.int (nI pl)), some (.int v1)]) d_Pa_endOfUnlike_32 rfl (by rw [e_v1]; rfl) (by decide) rfl rfl ?_
          refine mj_goto (tgt := 4) d_Pa_endOfUnlike_35 (by decide) ?_
          have g8 : pa_al b e < 2 ^ 31 := by
            unfold pa_al
            rcases pa_alE_le b e b.1 (e + 1) (Or.inl (by omega)) with q | q <;> omega
          rw [show (3 : Int32) = nI 3 from rfl] at c_29
          have hl3 : pa_al b e < 3 := by
            rcases Nat.lt_or_ge (pa_al b e) (3) with q | q
            · exact q
            · exact absurd (nI_le q (by omega)) c_29
          rw [e_v1, nI_1]
          rw [show pa_unE b pl (n + 1) e = pa_unE b pl n (e + 1) by rw [pa_unE, if_pos ⟨hlt, hl2, hl3⟩]] at kk
          exact ih (e + 1) (by omega) (by omega) (by omega) kk
set_option maxRecDepth 100000 in
set_option maxHeartbeats 4000000 in
theorem c_Pa_endOfUnlike {h : mj_H} {a sa sc : Nat} {b : by_B} (K : Pk h a sa sc b) {pl : Nat} (hpl : pl < 2 ^ 27) : mj_Met M_Pa_endOfUnlike (2, 43, none) 0 0 [.ref a, .int (nI pl)] h (mj_q (some (.int (nI (pa_un b pl)))) h) := by
  obtain ⟨h0, h1, h2, h3, h4⟩ := id K
  refine mj_enter (r := 1) rfl rfl (by decide) rfl ?_
  show mj_W M_Pa_endOfUnlike _ _ _ _ 0 [some (.ref a), some (.int (nI pl)), none] [] h
  refine mj_iload_n d_Pa_endOfUnlike_0 rfl ?_
  refine mj_iconst (v := 1) d_Pa_endOfUnlike_1 (by decide) ?_
  refine mj_iadd d_Pa_endOfUnlike_2 ?_
  rw [nI_1]
  refine mj_istore_n (L' := [some (.ref a), some (.int (nI pl)), some (.int (nI (pl + 1)))]) d_Pa_endOfUnlike_3 (by decide) rfl rfl ?_
  refine lp_Pa_endOfUnlike K b.1 (pl + 1) (by omega) (by omega) (by omega) ?_
  refine mj_iload_n d_Pa_endOfUnlike_38 rfl ?_
  exact mj_iret rfl d_Pa_endOfUnlike_39 ⟨rfl, rfl⟩
