theorem rd_hd_in {b : by_B} (hb : by_ok b) (hl : b.1 ≤ 1500) {p : pi_P} {x : rd_X} (hx : x.2.2.2 ≤ b.1) (hp : pi_bd p) (ho : pi_ok p) : pi_bd (rd_hd b p x).2.2 ∧ pi_ok (rd_hd b p x).2.2 ∧ (rd_hd b p x).2.1.2.2.2 ≤ b.1 ∧ ((rd_hd b p x).1 = true → (rd_hd b p x).2.1.2.2.1 < 4) := by
  have q1 := rd_mg_pl b 4 0 x hx
  have q2 := rd_h5_pl (b := b) q1.1
  unfold rd_hd
  by_cases g1 : (rd_mg b 4 0 x).1 = true
  · rw [if_pos g1]
    by_cases g2 : (rd_h5 b (rd_mg b 4 0 x).2).1 = true
    · rw [if_pos g2]
      have t := rd_h5_t hb hl g2
      refine ⟨⟨?_, ?_, Nat.zero_le _⟩, pi_new_ok _ _ _, q2.1, fun _ => ?_⟩
      · show by_h b _ ≤ 8
        rw [t.1]; exact t.2.2.1
      · show by_h b _ ≤ 8
        rw [t.1]; exact t.2.2.2.2.1
      · show by_h b _ < 4
        rw [t.1]
        exact Nat.lt_succ_of_le t.2.2.2.2.2.2
    · rw [if_neg g2]
      exact ⟨hp, ho, q2.1, fun q => by cases q⟩
  · rw [if_neg g1]
    exact ⟨hp, ho, q1.1, fun q => by cases q⟩
theorem rd_chs_in {b : by_B} (hb : by_ok b) (hl : b.1 ≤ 1500) {p : pi_P} {x : rd_X} (hx : x.2.2.2 ≤ b.1) (hp : pi_bd p) (ho : pi_ok p) : pi_bd (rd_chs b p x).2.2 ∧ pi_ok (rd_chs b p x).2.2 ∧ (rd_chs b p x).2.1.2.2.2 ≤ b.1 ∧ (rd_chs b p x).2.1.2.2.1 = x.2.2.1 := by
  have q1 := rd_nx_pl b 1 3 x hx
  unfold rd_chs
  split
  · obtain ⟨i1, i2, i3, i4, -⟩ := rd_chL_in hb hl (by_h b x.2.2.2) _ p q1.1 hp ho
    exact ⟨i1, i2, i3, i4.trans q1.2⟩
  · exact ⟨hp, ho, q1.1, q1.2⟩
theorem rd_tab_in {b : by_B} {p : pi_P} {x : rd_X} (hx : x.2.2.2 ≤ b.1) : (rd_tab b p x).2.2.2.2 ≤ b.1 ∧ (rd_tab b p x).2.2.2.1 = x.2.2.1 := rd_tb_pl _ _ _ _ hx
def rd_lc (b : by_B) (H ln : Nat) : Nat → Nat → rd_X → (Nat → Int32) → by_B → by_B → pi_P → rc_X
  | 0, _, x, f, r, s, p => (true, x, f, r, s, p)
  | n + 1, y, x, f, r, s, p => if y < H then (if (rd_ck b y x f r s p).1 = true then rd_lc b H ln n (y + ln) (rd_ck b y x f r s p).2.1 (rd_ck b y x f r s p).2.2.1 (rd_ck b y x f r s p).2.2.2.1 (rd_ck b y x f r s p).2.2.2.2.1 (rd_ck b y x f r s p).2.2.2.2.2 else rd_ck b y x f r s p) else (true, x, f, r, s, p)
theorem rc_in.tr {b : by_B} {p p1 : pi_P} {x x1 : rd_X} {c : rc_X} (h1 : x1.2.2.1 = x.2.2.1) (h2 : pi_sm p p1) (h : rc_in b p1 x1 c) : rc_in b p x c := ⟨h.1, h.2.1.trans h1, h.2.2.1, h.2.2.2.1, h2.trans h.2.2.2.2⟩
theorem rd_lc_in {b : by_B} (hl : b.1 ≤ 1500) (H ln : Nat) : ∀ (n y : Nat) (x : rd_X) (f : Nat → Int32) (r s : by_B) (p : pi_P), x.2.2.2 ≤ b.1 → r.1 ≤ 384 → s.1 ≤ 384 → rc_in b p x (rd_lc b H ln n y x f r s p)
  | 0, _, _, _, _, _, _, h1, h2, h3 => ⟨h1, rfl, h2, h3, .rfl⟩
  | n + 1, y, x, f, r, s, p, h1, h2, h3 => by
    unfold rd_lc
    have q := rd_ck_in (y := y) (f := f) (p := p) hl h1 h2 h3
    split
    · split
      · exact rc_in.tr q.2.1 q.2.2.2.2 (rd_lc_in hl H ln n (y + ln) _ _ _ _ _ q.1 q.2.2.1 q.2.2.2.1)
      · exact q
    · exact ⟨h1, rfl, h2, h3, .rfl⟩
def rd_fin (b : by_B) (c : rc_X) : rc_X := if c.1 = true then (if c.2.1.2.2.2 = b.1 then c else (false, rd_fl c.2.1 (nI c.2.1.2.2.2), c.2.2)) else c
def rd_all (b : by_B) (x : rd_X) (f : Nat → Int32) (r s : by_B) (p : pi_P) : rc_X :=
  if (rd_hd b p x).1 = true then
    (if (rd_chs b (rd_hd b p x).2.2 (rd_hd b p x).2.1).1 = true then
      (if (rd_tab b (rd_chs b (rd_hd b p x).2.2 (rd_hd b p x).2.1).2.2 (rd_chs b (rd_hd b p x).2.2 (rd_hd b p x).2.1).2.1).1 = true then
        rd_fin b (rd_lc b (rd_chs b (rd_hd b p x).2.2 (rd_hd b p x).2.1).2.2.2.1 (rf_ln (rd_tab b (rd_chs b (rd_hd b p x).2.2 (rd_hd b p x).2.1).2.2 (rd_chs b (rd_hd b p x).2.2 (rd_hd b p x).2.1).2.1).2.2.2.1) (rd_chs b (rd_hd b p x).2.2 (rd_hd b p x).2.1).2.2.2.1 0 (rd_tab b (rd_chs b (rd_hd b p x).2.2 (rd_hd b p x).2.1).2.2 (rd_chs b (rd_hd b p x).2.2 (rd_hd b p x).2.1).2.1).2 f r s (rd_chs b (rd_hd b p x).2.2 (rd_hd b p x).2.1).2.2)
      else (false, (rd_tab b (rd_chs b (rd_hd b p x).2.2 (rd_hd b p x).2.1).2.2 (rd_chs b (rd_hd b p x).2.2 (rd_hd b p x).2.1).2.1).2, f, r, s, (rd_chs b (rd_hd b p x).2.2 (rd_hd b p x).2.1).2.2))
    else (false, (rd_chs b (rd_hd b p x).2.2 (rd_hd b p x).2.1).2.1, f, r, s, (rd_chs b (rd_hd b p x).2.2 (rd_hd b p x).2.1).2.2))
  else (false, (rd_hd b p x).2.1, f, r, s, (rd_hd b p x).2.2)
theorem rf_ln_ge (k : Nat) : 1 ≤ rf_ln k := by unfold rf_ln; split <;> omega
theorem pi_chs_lt (p : pi_P) (k i : Nat) : i < pi_chs p k ↔ i * rf_ln k < p.2.1 := by
  unfold pi_chs rf_ln
  by_cases g : k < 2
  · rw [if_pos g, if_pos g]; omega
  · rw [if_neg g, if_neg g]; omega
theorem pi_end_ge {p : pi_P} {y k : Nat} (h : y ≤ p.2.1) : y ≤ pi_end p y k := by unfold pi_end; split <;> omega
theorem rr_0 {h : mj_H} {y : mj_C} {x : rd_X} {f : Nat → Int32} {r s q : by_B} {a l t st m : Nat} {p : pi_P} (z : (17 ≤ a ∧ 17 ≤ l ∧ 17 ≤ t ∧ 17 ≤ st ∧ 17 ≤ m)) : rr_up (h.set 14 y) a l t st m x f r s q p = rr_up h a l t st m x f r s q p := by
  unfold rr_up ps_up
  rw [cf_set (by decide), ← pi_set z (by decide), List.set_set]
set_option maxRecDepth 100000 in
set_option maxHeartbeats 4000000 in
theorem lp_Re_read {Q : mj_E → mj_H → Prop} {a l t st m H ln sc Ch kc ks : Nat} {b q : by_B} (hb : by_ok b) (hk : sc < 4) (hln : ln = rf_ln sc) (hCh : ∀ i, i < Ch ↔ i * ln < H) (hC8 : Ch ≤ 8) : ∀ (n i y : Nat) (x : rd_X) (f : Nat → Int32) (r s : by_B) (p : pi_P) (h : mj_H), Rr h b x f r s q a l t st m p → x.2.2.2 ≤ b.1 → x.2.2.1 = sc → p.2.1 = H → y = i * ln → H ≤ y + n → i ≤ 8 → ((rd_lc b H ln n y x f r s p).1 = true → mj_W M_Re_read Q (6, 156, none) kc ks 94 [some (.ref 14), some (.ref 1), some (.ref a), some (.ref 3), some (.int (nI Ch)), none] [] (rr_up h a l t st m (rd_lc b H ln n y x f r s p).2.1 (rd_lc b H ln n y x f r s p).2.2.1 (rd_lc b H ln n y x f r s p).2.2.2.1 (rd_lc b H ln n y x f r s p).2.2.2.2.1 q (rd_lc b H ln n y x f r s p).2.2.2.2.2)) → ((rd_lc b H ln n y x f r s p).1 = false → Q (.inl (some (.int 0))) (rr_up h a l t st m (rd_lc b H ln n y x f r s p).2.1 (rd_lc b H ln n y x f r s p).2.2.1 (rd_lc b H ln n y x f r s p).2.2.2.1 (rd_lc b H ln n y x f r s p).2.2.2.2.1 q (rd_lc b H ln n y x f r s p).2.2.2.2.2)) → mj_W M_Re_read Q (6, 156, none) kc ks 60 [some (.ref 14), some (.ref 1), some (.ref a), some (.ref 3), some (.int (nI Ch)), some (.int (nI i))] [] h := by
  intro n
  induction n with
  | zero =>
    intro i y x f r s p h R hx hsc hH hyi hy hy2 kt kf
    have hl1 : 1 ≤ ln := by rw [hln]; exact rf_ln_ge _
    obtain ⟨⟨⟨f1, f2, f3, f4⟩, r0⟩, C⟩ := id R
    have bd : pi_bd p := R.ps.bd
    have hok := R.ps.2.2.2
    have b3 := C.1.1.2.1.2.2.1
    have s3 := C.2.1.2.2.2.1
    have q3 := C.2.2.2.2.1
    have h1 := C.1.1.2.2.1.1
    have bd2 := bd.2.1
    refine mj_iload d_Re_read_60 rfl ?_
    refine mj_iload d_Re_read_62 rfl ?_
    refine mj_icmp_ge (tgt := 94) d_Re_read_64 (by decide) (fun c_64 => ?_) (fun c_64 => ?_)
    · refine mj_fg 5 (L' := [some (.ref 14), some (.ref 1), some (.ref a), some (.ref 3), some (.int (nI Ch)), none]) rfl ?_
      refine mj_hp R.idn (kt rfl)
    · exact absurd (nI_le (a := Ch) (b := i) (Nat.le_of_not_lt (fun e0 => by have := (hCh i).mp e0; omega)) (by omega)) c_64
  | succ n ih =>
    intro i y x f r s p h R hx hsc hH hyi hy hy2 kt kf
    have hl1 : 1 ≤ ln := by rw [hln]; exact rf_ln_ge _
    obtain ⟨⟨⟨f1, f2, f3, f4⟩, r0⟩, C⟩ := id R
    have bd : pi_bd p := R.ps.bd
    have hok := R.ps.2.2.2
    have b3 := C.1.1.2.1.2.2.1
    have s3 := C.2.1.2.2.2.1
    have q3 := C.2.2.2.2.1
    have h1 := C.1.1.2.2.1.1
    have bd2 := bd.2.1
    refine mj_iload d_Re_read_60 rfl ?_
    refine mj_iload d_Re_read_62 rfl ?_
    refine mj_icmp_ge (tgt := 94) d_Re_read_64 (by decide) (fun c_64 => ?_) (fun c_64 => ?_)
    · have hge : ¬ y < H := fun e0 => nI_ge (a := i) (b := Ch) ((hCh i).mpr (by rw [← hyi]; exact e0)) (by omega) c_64
      refine mj_fg 5 (L' := [some (.ref 14), some (.ref 1), some (.ref a), some (.ref 3), some (.int (nI Ch)), none]) rfl ?_
      have er : rd_lc b H ln (n + 1) y x f r s p = (true, x, f, r, s, p) := by rw [rd_lc, if_neg hge]
      rw [er] at kt
      refine mj_hp R.idn (kt rfl)
    · have hlc : i < Ch := by
        rcases Nat.lt_or_ge (i) (Ch) with q | q
        · exact q
        · exact absurd (nI_le q (by omega)) c_64
      have hlt : y < H := by rw [hyi]; exact (hCh i).mp hlc
      have hk4 : x.2.2.1 < 4 := by rw [hsc]; exact hk
      refine mj_aload_n d_Re_read_67 rfl ?_
      refine mj_iload d_Re_read_68 rfl ?_
      refine mj_aload_n d_Re_read_70 rfl ?_
      refine mj_get ok_Re (k := 2) (by decide) fl_Re_41 d_Re_read_71 r0 rfl ?_
      refine mj_cSN (S := [.int (nI i), .ref 14]) (S1 := [.int (rf_lines (nI x.2.2.1)), .int (nI i), .ref 14]) (c_RF_linesOfChunk _) d_Re_read_74 cw_RF_linesOfChunk mn_Re_50 st_RF_linesOfChunk (by decide) rfl (Nat.le_of_ble_eq_true rfl) rfl rfl ?_
      rw [rf_lines_ln hk4, hsc, ← hln]
      refine mj_imul d_Re_read_77 ?_
      rw [pk_mul, ← hyi]
      refine mj_aload_n d_Re_read_78 rfl ?_
      refine mj_aload_n d_Re_read_79 rfl ?_
      have ci := rd_ck_in (y := y) (f := f) (p := p) f3 hx b3 s3
      have bd5 := ci.2.2.2.2.bd bd
      refine mj_cV (S := []) (S1 := [.int (if (rd_ck b y x f r s p).1 = true then 1 else 0)]) (c_Re_readChunk R hb hx (y := y) (pi_end_ge (by omega)) hk4) d_Re_read_80 cw_Re_readChunk ml_Re_53 im_Re_readChunk se_Re_readChunk rfl r0 (by decide) rfl (Nat.le_of_ble_eq_true rfl) rfl rfl ?_
      rcases Bool.eq_false_or_eq_true ((rd_ck b y x f r s p).1) with g1 | g1
      · rw [show (if (rd_ck b y x f r s p).1 = true then (1 : Int32) else 0) = 1 by rw [g1]; rfl]
        refine mj_if_ne (tgt := 88) d_Re_read_83 (by decide) (fun _q => ?_) (fun _q => absurd _q (by decide))
        obtain ⟨v1, e_v1⟩ : ∃ q_ : Int32, q_ = (nI i) + 1 := ⟨_, rfl⟩
        refine mj_iinc (x := (nI i)) (v := v1) (L' := [some (.ref 14), some (.ref 1), some (.ref a), some (.ref 3), some (.int (nI Ch)), some (.int v1)]) d_Re_read_88 rfl (by rw [e_v1]; rfl) (by decide) rfl rfl ?_
        refine mj_goto (tgt := 60) d_Re_read_91 (by decide) ?_
        rw [e_v1, nI_1]
        have er : rd_lc b H ln (n + 1) y x f r s p = rd_lc b H ln n (y + ln) (rd_ck b y x f r s p).2.1 (rd_ck b y x f r s p).2.2.1 (rd_ck b y x f r s p).2.2.2.1 (rd_ck b y x f r s p).2.2.2.2.1 (rd_ck b y x f r s p).2.2.2.2.2 := by rw [rd_lc, if_pos hlt, if_pos g1]
        rw [er] at kt kf
        have R5 : Rr (rr_up h a l t st m (rd_ck b y x f r s p).2.1 (rd_ck b y x f r s p).2.2.1 (rd_ck b y x f r s p).2.2.2.1 (rd_ck b y x f r s p).2.2.2.2.1 q (rd_ck b y x f r s p).2.2.2.2.2) b (rd_ck b y x f r s p).2.1 (rd_ck b y x f r s p).2.2.1 (rd_ck b y x f r s p).2.2.2.1 (rd_ck b y x f r s p).2.2.2.2.1 q a l t st m (rd_ck b y x f r s p).2.2.2.2.2 := R.up ci.2.2.1 ci.2.2.2.1 q3 bd5 (ci.2.2.2.2.ok hok)
        have bd6 := (rd_lc_in f3 H ln n (y + ln) (rd_ck b y x f r s p).2.1 (rd_ck b y x f r s p).2.2.1 (rd_ck b y x f r s p).2.2.2.1 (rd_ck b y x f r s p).2.2.2.2.1 (rd_ck b y x f r s p).2.2.2.2.2 ci.1 ci.2.2.1 ci.2.2.2.1).2.2.2.2.bd bd5
        exact ih (i + 1) (y + ln) _ _ _ _ _ _ R5 ci.1 (by rw [ci.2.1]; exact hsc) (by rw [ci.2.2.2.2.2.1]; exact hH) (by rw [hyi]; exact (Nat.succ_mul _ _).symm) (by omega) (by omega) (by rw [R.uu bd5 bd6]; exact kt) (by rw [R.uu bd5 bd6]; exact kf)
      · rw [show (if (rd_ck b y x f r s p).1 = true then (1 : Int32) else 0) = 0 by rw [g1]; rfl]
        refine mj_if_ne (tgt := 88) d_Re_read_83 (by decide) (fun _q => absurd rfl _q) (fun _q => ?_)
        refine mj_iconst (v := 0) d_Re_read_86 (by decide) ?_
        have er : rd_lc b H ln (n + 1) y x f r s p = (rd_ck b y x f r s p) := by rw [rd_lc, if_pos hlt, if_neg (by rw [g1]; decide)]
        rw [er] at kf
        exact mj_zret rfl rfl d_Re_read_87 (kf g1)
set_option maxRecDepth 100000 in
set_option maxHeartbeats 4000000 in
theorem w_Re_read {h : mj_H} {b : by_B} {x : rd_X} {f : Nat → Int32} {r s q : by_B} {a l t st m : Nat} {p : pi_P} (R : Rr h b x f r s q a l t st m p) (hb : by_ok b) (hx : x.2.2.2 ≤ b.1) : mj_W M_Re_read (mj_q (some (.int (if (rd_all b x f r s p).1 = true then 1 else 0))) (rr_up h a l t st m (rd_all b x f r s p).2.1 (rd_all b x f r s p).2.2.1 (rd_all b x f r s p).2.2.2.1 (rd_all b x f r s p).2.2.2.2.1 q (rd_all b x f r s p).2.2.2.2.2)) (6, 156, none) 0 0 21 [some (.ref 14), some (.ref 1), some (.ref a), some (.ref 3), none, none] [] h := by
  obtain ⟨⟨⟨f1, f2, f3, f4⟩, r0⟩, C⟩ := id R
  have bd : pi_bd p := R.ps.bd
  have hok := R.ps.2.2.2
  have b3 := C.1.1.2.1.2.2.1
  have s3 := C.2.1.2.2.2.1
  have q3 := C.2.2.2.2.1
  have h1 := C.1.1.2.2.1.1
  have bd2 := bd.2.1
  have i1 := rd_hd_in hb f3 hx bd hok
  have i2 := rd_chs_in hb f3 i1.2.2.1 i1.1 i1.2.1
  have i3 := rd_tab_in (b := b) (p := (rd_chs b (rd_hd b p x).2.2 (rd_hd b p x).2.1).2.2) i2.2.2.1
  refine mj_aload_n d_Re_read_21 rfl ?_
  refine mj_aload_n d_Re_read_22 rfl ?_
  refine mj_cV (S := []) (S1 := [.int (if (rd_hd b p x).1 = true then 1 else 0)]) (c_Re_readHead R.ps hb hx) d_Re_read_23 cw_Re_readHead ml_Re_31 im_Re_readHead se_Re_readHead rfl r0 (by decide) rfl (Nat.le_of_ble_eq_true rfl) rfl rfl ?_
  rw [R.p]
  have R1 : Rr (rr_up h a l t st m (rd_hd b p x).2.1 f r s q (rd_hd b p x).2.2) b (rd_hd b p x).2.1 f r s q a l t st m (rd_hd b p x).2.2 := R.up b3 s3 q3 i1.1 i1.2.1
  have u10 := R1.1.2
  have u11 := R1.1.1.1
  have u12 := R1.1.1.2.1
  have u13 := R1.2.1.1.1
  have u14 := R1.2.1.1.2.2.1.1
  rcases Bool.eq_false_or_eq_true ((rd_hd b p x).1) with g1 | g1
  · rw [show (if (rd_hd b p x).1 = true then (1 : Int32) else 0) = 1 by rw [g1]; rfl]
    refine mj_if_eq (tgt := 45) d_Re_read_26 (by decide) (fun _q => absurd _q (by decide)) (fun _q => ?_)
    refine mj_aload_n d_Re_read_29 rfl ?_
    refine mj_aload_n d_Re_read_30 rfl ?_
    refine mj_cV (S := []) (S1 := [.int (if (rd_chs b (rd_hd b p x).2.2 (rd_hd b p x).2.1).1 = true then 1 else 0)]) (c_Re_readChannels R1.ps hb i1.2.2.1) d_Re_read_31 cw_Re_readChannels ml_Re_35 im_Re_readChannels se_Re_readChannels rfl u10 (by decide) rfl (Nat.le_of_ble_eq_true rfl) rfl rfl ?_
    rw [R1.p, R.uu i1.1 i2.1]
    have R2 : Rr (rr_up h a l t st m (rd_chs b (rd_hd b p x).2.2 (rd_hd b p x).2.1).2.1 f r s q (rd_chs b (rd_hd b p x).2.2 (rd_hd b p x).2.1).2.2) b (rd_chs b (rd_hd b p x).2.2 (rd_hd b p x).2.1).2.1 f r s q a l t st m (rd_chs b (rd_hd b p x).2.2 (rd_hd b p x).2.1).2.2 := R.up b3 s3 q3 i2.1 i2.2.1
    have u20 := R2.1.2
    have u21 := R2.1.1.1
    have u22 := R2.1.1.2.1
    have u23 := R2.2.1.1.1
    have u24 := R2.2.1.1.2.2.1.1
    rcases Bool.eq_false_or_eq_true ((rd_chs b (rd_hd b p x).2.2 (rd_hd b p x).2.1).1) with g2 | g2
    · rw [show (if (rd_chs b (rd_hd b p x).2.2 (rd_hd b p x).2.1).1 = true then (1 : Int32) else 0) = 1 by rw [g2]; rfl]
      refine mj_if_eq (tgt := 45) d_Re_read_34 (by decide) (fun _q => absurd _q (by decide)) (fun _q => ?_)
      refine mj_aload_n d_Re_read_37 rfl ?_
      refine mj_aload_n d_Re_read_38 rfl ?_
      have k4 := i1.2.2.2 g1
      refine mj_cV (S := []) (S1 := [.int (if (rd_tab b (rd_chs b (rd_hd b p x).2.2 (rd_hd b p x).2.1).2.2 (rd_chs b (rd_hd b p x).2.2 (rd_hd b p x).2.1).2.1).1 = true then 1 else 0)]) (c_Re_readTable R2.1 R2.ps.2.1 (by rw [i2.2.2.2]; exact k4) i2.2.2.1) d_Re_read_39 cw_Re_readTable ml_Re_38 im_Re_readTable se_Re_readTable rfl u20 (by decide) rfl (Nat.le_of_ble_eq_true rfl) rfl rfl ?_
      rw [R2.x, R.uu i2.1 i2.1]
      have R3 : Rr (rr_up h a l t st m (rd_tab b (rd_chs b (rd_hd b p x).2.2 (rd_hd b p x).2.1).2.2 (rd_chs b (rd_hd b p x).2.2 (rd_hd b p x).2.1).2.1).2 f r s q (rd_chs b (rd_hd b p x).2.2 (rd_hd b p x).2.1).2.2) b (rd_tab b (rd_chs b (rd_hd b p x).2.2 (rd_hd b p x).2.1).2.2 (rd_chs b (rd_hd b p x).2.2 (rd_hd b p x).2.1).2.1).2 f r s q a l t st m (rd_chs b (rd_hd b p x).2.2 (rd_hd b p x).2.1).2.2 := R.up b3 s3 q3 i2.1 i2.2.1
      have u30 := R3.1.2
      have u31 := R3.1.1.1
      have u32 := R3.1.1.2.1
      have u33 := R3.2.1.1.1
      have u34 := R3.2.1.1.2.2.1.1
      rcases Bool.eq_false_or_eq_true ((rd_tab b (rd_chs b (rd_hd b p x).2.2 (rd_hd b p x).2.1).2.2 (rd_chs b (rd_hd b p x).2.2 (rd_hd b p x).2.1).2.1).1) with g3 | g3
      · rw [show (if (rd_tab b (rd_chs b (rd_hd b p x).2.2 (rd_hd b p x).2.1).2.2 (rd_chs b (rd_hd b p x).2.2 (rd_hd b p x).2.1).2.1).1 = true then (1 : Int32) else 0) = 1 by rw [g3]; rfl]
        refine mj_if_ne (tgt := 47) d_Re_read_42 (by decide) (fun _q => ?_) (fun _q => absurd _q (by decide))
        refine mj_aload_n d_Re_read_47 rfl ?_
        refine mj_aload_n d_Re_read_48 rfl ?_
        refine mj_get ok_Re (k := 2) (by decide) fl_Re_41 d_Re_read_49 u30 rfl ?_
        have k5 : (rd_tab b (rd_chs b (rd_hd b p x).2.2 (rd_hd b p x).2.1).2.2 (rd_chs b (rd_hd b p x).2.2 (rd_hd b p x).2.1).2.1).2.2.2.1 < 4 := by rw [i3.2, i2.2.2.2]; exact k4
        refine mj_cV (S := []) (S1 := [.int (nI (pi_chs (rd_chs b (rd_hd b p x).2.2 (rd_hd b p x).2.1).2.2 (rd_tab b (rd_chs b (rd_hd b p x).2.2 (rd_hd b p x).2.1).2.2 (rd_chs b (rd_hd b p x).2.2 (rd_hd b p x).2.1).2.1).2.2.2.1))]) (c_Pi_chunks R3.2.1.1.2.2.1 (k := (rd_tab b (rd_chs b (rd_hd b p x).2.2 (rd_hd b p x).2.1).2.2 (rd_chs b (rd_hd b p x).2.2 (rd_hd b p x).2.1).2.1).2.2.2.1) k5) d_Re_read_52 cw_Pi_chunks ml_Re_44 im_Pi_chunks se_Pi_chunks rfl u34 (by decide) rfl (Nat.le_of_ble_eq_true rfl) rfl rfl ?_
        refine mj_istore (L' := [some (.ref 14), some (.ref 1), some (.ref a), some (.ref 3), some (.int (nI (pi_chs (rd_chs b (rd_hd b p x).2.2 (rd_hd b p x).2.1).2.2 (rd_tab b (rd_chs b (rd_hd b p x).2.2 (rd_hd b p x).2.1).2.2 (rd_chs b (rd_hd b p x).2.2 (rd_hd b p x).2.1).2.1).2.2.2.1))), none]) d_Re_read_55 (by decide) rfl rfl ?_
        refine mj_iconst (v := 0) d_Re_read_57 (by decide) ?_
        refine mj_istore (L' := [some (.ref 14), some (.ref 1), some (.ref a), some (.ref 3), some (.int (nI (pi_chs (rd_chs b (rd_hd b p x).2.2 (rd_hd b p x).2.1).2.2 (rd_tab b (rd_chs b (rd_hd b p x).2.2 (rd_hd b p x).2.1).2.2 (rd_chs b (rd_hd b p x).2.2 (rd_hd b p x).2.1).2.1).2.2.2.1))), some (.int 0)]) d_Re_read_58 (by decide) rfl rfl ?_
        have er : rd_all b x f r s p = rd_fin b (rd_lc b (rd_chs b (rd_hd b p x).2.2 (rd_hd b p x).2.1).2.2.2.1 (rf_ln (rd_tab b (rd_chs b (rd_hd b p x).2.2 (rd_hd b p x).2.1).2.2 (rd_chs b (rd_hd b p x).2.2 (rd_hd b p x).2.1).2.1).2.2.2.1) (rd_chs b (rd_hd b p x).2.2 (rd_hd b p x).2.1).2.2.2.1 0 (rd_tab b (rd_chs b (rd_hd b p x).2.2 (rd_hd b p x).2.1).2.2 (rd_chs b (rd_hd b p x).2.2 (rd_hd b p x).2.1).2.1).2 f r s (rd_chs b (rd_hd b p x).2.2 (rd_hd b p x).2.1).2.2) := by unfold rd_all; rw [if_pos g1, if_pos g2, if_pos g3]
        have li := rd_lc_in f3 (rd_chs b (rd_hd b p x).2.2 (rd_hd b p x).2.1).2.2.2.1 (rf_ln (rd_tab b (rd_chs b (rd_hd b p x).2.2 (rd_hd b p x).2.1).2.2 (rd_chs b (rd_hd b p x).2.2 (rd_hd b p x).2.1).2.1).2.2.2.1) (rd_chs b (rd_hd b p x).2.2 (rd_hd b p x).2.1).2.2.2.1 0 (rd_tab b (rd_chs b (rd_hd b p x).2.2 (rd_hd b p x).2.1).2.2 (rd_chs b (rd_hd b p x).2.2 (rd_hd b p x).2.1).2.1).2 f r s (rd_chs b (rd_hd b p x).2.2 (rd_hd b p x).2.1).2.2 i3.1 b3 s3
        have bd7 := li.2.2.2.2.bd i2.1
        have b8 := i2.1.2.1
        have c8 : pi_chs (rd_chs b (rd_hd b p x).2.2 (rd_hd b p x).2.1).2.2 (rd_tab b (rd_chs b (rd_hd b p x).2.2 (rd_hd b p x).2.1).2.2 (rd_chs b (rd_hd b p x).2.2 (rd_hd b p x).2.1).2.1).2.2.2.1 ≤ 8 := by unfold pi_chs; split <;> omega
        refine lp_Re_read (Ch := pi_chs (rd_chs b (rd_hd b p x).2.2 (rd_hd b p x).2.1).2.2 (rd_tab b (rd_chs b (rd_hd b p x).2.2 (rd_hd b p x).2.1).2.2 (rd_chs b (rd_hd b p x).2.2 (rd_hd b p x).2.1).2.1).2.2.2.1) hb k5 rfl (fun i => pi_chs_lt _ _ i) c8 (rd_chs b (rd_hd b p x).2.2 (rd_hd b p x).2.1).2.2.2.1 0 0 (rd_tab b (rd_chs b (rd_hd b p x).2.2 (rd_hd b p x).2.1).2.2 (rd_chs b (rd_hd b p x).2.2 (rd_hd b p x).2.1).2.1).2 f r s (rd_chs b (rd_hd b p x).2.2 (rd_hd b p x).2.1).2.2 _ R3 i3.1 rfl rfl (Nat.zero_mul _).symm (by omega) (by omega) (fun g => ?_) (fun g => ?_)
        · rw [R.uu i2.1 bd7]
          have R4 : Rr (rr_up h a l t st m (rd_lc b (rd_chs b (rd_hd b p x).2.2 (rd_hd b p x).2.1).2.2.2.1 (rf_ln (rd_tab b (rd_chs b (rd_hd b p x).2.2 (rd_hd b p x).2.1).2.2 (rd_chs b (rd_hd b p x).2.2 (rd_hd b p x).2.1).2.1).2.2.2.1) (rd_chs b (rd_hd b p x).2.2 (rd_hd b p x).2.1).2.2.2.1 0 (rd_tab b (rd_chs b (rd_hd b p x).2.2 (rd_hd b p x).2.1).2.2 (rd_chs b (rd_hd b p x).2.2 (rd_hd b p x).2.1).2.1).2 f r s (rd_chs b (rd_hd b p x).2.2 (rd_hd b p x).2.1).2.2).2.1 (rd_lc b (rd_chs b (rd_hd b p x).2.2 (rd_hd b p x).2.1).2.2.2.1 (rf_ln (rd_tab b (rd_chs b (rd_hd b p x).2.2 (rd_hd b p x).2.1).2.2 (rd_chs b (rd_hd b p x).2.2 (rd_hd b p x).2.1).2.1).2.2.2.1) (rd_chs b (rd_hd b p x).2.2 (rd_hd b p x).2.1).2.2.2.1 0 (rd_tab b (rd_chs b (rd_hd b p x).2.2 (rd_hd b p x).2.1).2.2 (rd_chs b (rd_hd b p x).2.2 (rd_hd b p x).2.1).2.1).2 f r s (rd_chs b (rd_hd b p x).2.2 (rd_hd b p x).2.1).2.2).2.2.1 (rd_lc b (rd_chs b (rd_hd b p x).2.2 (rd_hd b p x).2.1).2.2.2.1 (rf_ln (rd_tab b (rd_chs b (rd_hd b p x).2.2 (rd_hd b p x).2.1).2.2 (rd_chs b (rd_hd b p x).2.2 (rd_hd b p x).2.1).2.1).2.2.2.1) (rd_chs b (rd_hd b p x).2.2 (rd_hd b p x).2.1).2.2.2.1 0 (rd_tab b (rd_chs b (rd_hd b p x).2.2 (rd_hd b p x).2.1).2.2 (rd_chs b (rd_hd b p x).2.2 (rd_hd b p x).2.1).2.1).2 f r s (rd_chs b (rd_hd b p x).2.2 (rd_hd b p x).2.1).2.2).2.2.2.1 (rd_lc b (rd_chs b (rd_hd b p x).2.2 (rd_hd b p x).2.1).2.2.2.1 (rf_ln (rd_tab b (rd_chs b (rd_hd b p x).2.2 (rd_hd b p x).2.1).2.2 (rd_chs b (rd_hd b p x).2.2 (rd_hd b p x).2.1).2.1).2.2.2.1) (rd_chs b (rd_hd b p x).2.2 (rd_hd b p x).2.1).2.2.2.1 0 (rd_tab b (rd_chs b (rd_hd b p x).2.2 (rd_hd b p x).2.1).2.2 (rd_chs b (rd_hd b p x).2.2 (rd_hd b p x).2.1).2.1).2 f r s (rd_chs b (rd_hd b p x).2.2 (rd_hd b p x).2.1).2.2).2.2.2.2.1 q (rd_lc b (rd_chs b (rd_hd b p x).2.2 (rd_hd b p x).2.1).2.2.2.1 (rf_ln (rd_tab b (rd_chs b (rd_hd b p x).2.2 (rd_hd b p x).2.1).2.2 (rd_chs b (rd_hd b p x).2.2 (rd_hd b p x).2.1).2.1).2.2.2.1) (rd_chs b (rd_hd b p x).2.2 (rd_hd b p x).2.1).2.2.2.1 0 (rd_tab b (rd_chs b (rd_hd b p x).2.2 (rd_hd b p x).2.1).2.2 (rd_chs b (rd_hd b p x).2.2 (rd_hd b p x).2.1).2.1).2 f r s (rd_chs b (rd_hd b p x).2.2 (rd_hd b p x).2.1).2.2).2.2.2.2.2) b (rd_lc b (rd_chs b (rd_hd b p x).2.2 (rd_hd b p x).2.1).2.2.2.1 (rf_ln (rd_tab b (rd_chs b (rd_hd b p x).2.2 (rd_hd b p x).2.1).2.2 (rd_chs b (rd_hd b p x).2.2 (rd_hd b p x).2.1).2.1).2.2.2.1) (rd_chs b (rd_hd b p x).2.2 (rd_hd b p x).2.1).2.2.2.1 0 (rd_tab b (rd_chs b (rd_hd b p x).2.2 (rd_hd b p x).2.1).2.2 (rd_chs b (rd_hd b p x).2.2 (rd_hd b p x).2.1).2.1).2 f r s (rd_chs b (rd_hd b p x).2.2 (rd_hd b p x).2.1).2.2).2.1 (rd_lc b (rd_chs b (rd_hd b p x).2.2 (rd_hd b p x).2.1).2.2.2.1 (rf_ln (rd_tab b (rd_chs b (rd_hd b p x).2.2 (rd_hd b p x).2.1).2.2 (rd_chs b (rd_hd b p x).2.2 (rd_hd b p x).2.1).2.1).2.2.2.1) (rd_chs b (rd_hd b p x).2.2 (rd_hd b p x).2.1).2.2.2.1 0 (rd_tab b (rd_chs b (rd_hd b p x).2.2 (rd_hd b p x).2.1).2.2 (rd_chs b (rd_hd b p x).2.2 (rd_hd b p x).2.1).2.1).2 f r s (rd_chs b (rd_hd b p x).2.2 (rd_hd b p x).2.1).2.2).2.2.1 (rd_lc b (rd_chs b (rd_hd b p x).2.2 (rd_hd b p x).2.1).2.2.2.1 (rf_ln (rd_tab b (rd_chs b (rd_hd b p x).2.2 (rd_hd b p x).2.1).2.2 (rd_chs b (rd_hd b p x).2.2 (rd_hd b p x).2.1).2.1).2.2.2.1) (rd_chs b (rd_hd b p x).2.2 (rd_hd b p x).2.1).2.2.2.1 0 (rd_tab b (rd_chs b (rd_hd b p x).2.2 (rd_hd b p x).2.1).2.2 (rd_chs b (rd_hd b p x).2.2 (rd_hd b p x).2.1).2.1).2 f r s (rd_chs b (rd_hd b p x).2.2 (rd_hd b p x).2.1).2.2).2.2.2.1 (rd_lc b (rd_chs b (rd_hd b p x).2.2 (rd_hd b p x).2.1).2.2.2.1 (rf_ln (rd_tab b (rd_chs b (rd_hd b p x).2.2 (rd_hd b p x).2.1).2.2 (rd_chs b (rd_hd b p x).2.2 (rd_hd b p x).2.1).2.1).2.2.2.1) (rd_chs b (rd_hd b p x).2.2 (rd_hd b p x).2.1).2.2.2.1 0 (rd_tab b (rd_chs b (rd_hd b p x).2.2 (rd_hd b p x).2.1).2.2 (rd_chs b (rd_hd b p x).2.2 (rd_hd b p x).2.1).2.1).2 f r s (rd_chs b (rd_hd b p x).2.2 (rd_hd b p x).2.1).2.2).2.2.2.2.1 q a l t st m (rd_lc b (rd_chs b (rd_hd b p x).2.2 (rd_hd b p x).2.1).2.2.2.1 (rf_ln (rd_tab b (rd_chs b (rd_hd b p x).2.2 (rd_hd b p x).2.1).2.2 (rd_chs b (rd_hd b p x).2.2 (rd_hd b p x).2.1).2.1).2.2.2.1) (rd_chs b (rd_hd b p x).2.2 (rd_hd b p x).2.1).2.2.2.1 0 (rd_tab b (rd_chs b (rd_hd b p x).2.2 (rd_hd b p x).2.1).2.2 (rd_chs b (rd_hd b p x).2.2 (rd_hd b p x).2.1).2.1).2 f r s (rd_chs b (rd_hd b p x).2.2 (rd_hd b p x).2.1).2.2).2.2.2.2.2 := R.up li.2.2.1 li.2.2.2.1 q3 bd7 (li.2.2.2.2.ok i2.2.1)
          have u40 := R4.1.2
          have u41 := R4.1.1.1
          have u42 := R4.1.1.2.1
          have u43 := R4.2.1.1.1
          have u44 := R4.2.1.1.2.2.1.1
          refine mj_aload_n d_Re_read_94 rfl ?_
          refine mj_get ok_Re (k := 4) (by decide) fl_Re_24 d_Re_read_95 u40 rfl ?_
          refine mj_aload_n d_Re_read_98 rfl ?_
          refine mj_get ok_Re (k := 3) (by decide) fl_Re_20 d_Re_read_99 u40 rfl ?_
          refine mj_get ok_By (k := 1) (by decide) fl_Re_57 d_Re_read_102 u41 rfl ?_
          refine mj_icmp_eq (tgt := 119) d_Re_read_105 (by decide) (fun c_105 => ?_) (fun c_105 => ?_)
          · have e9 : (rd_lc b (rd_chs b (rd_hd b p x).2.2 (rd_hd b p x).2.1).2.2.2.1 (rf_ln (rd_tab b (rd_chs b (rd_hd b p x).2.2 (rd_hd b p x).2.1).2.2 (rd_chs b (rd_hd b p x).2.2 (rd_hd b p x).2.1).2.1).2.2.2.1) (rd_chs b (rd_hd b p x).2.2 (rd_hd b p x).2.1).2.2.2.1 0 (rd_tab b (rd_chs b (rd_hd b p x).2.2 (rd_hd b p x).2.1).2.2 (rd_chs b (rd_hd b p x).2.2 (rd_hd b p x).2.1).2.1).2 f r s (rd_chs b (rd_hd b p x).2.2 (rd_hd b p x).2.1).2.2).2.1.2.2.2 = b.1 := by rw [nI_eq (by have := li.1; omega) (by omega)] at c_105; exact c_105
            have ef : rd_fin b (rd_lc b (rd_chs b (rd_hd b p x).2.2 (rd_hd b p x).2.1).2.2.2.1 (rf_ln (rd_tab b (rd_chs b (rd_hd b p x).2.2 (rd_hd b p x).2.1).2.2 (rd_chs b (rd_hd b p x).2.2 (rd_hd b p x).2.1).2.1).2.2.2.1) (rd_chs b (rd_hd b p x).2.2 (rd_hd b p x).2.1).2.2.2.1 0 (rd_tab b (rd_chs b (rd_hd b p x).2.2 (rd_hd b p x).2.1).2.2 (rd_chs b (rd_hd b p x).2.2 (rd_hd b p x).2.1).2.1).2 f r s (rd_chs b (rd_hd b p x).2.2 (rd_hd b p x).2.1).2.2) = (rd_lc b (rd_chs b (rd_hd b p x).2.2 (rd_hd b p x).2.1).2.2.2.1 (rf_ln (rd_tab b (rd_chs b (rd_hd b p x).2.2 (rd_hd b p x).2.1).2.2 (rd_chs b (rd_hd b p x).2.2 (rd_hd b p x).2.1).2.1).2.2.2.1) (rd_chs b (rd_hd b p x).2.2 (rd_hd b p x).2.1).2.2.2.1 0 (rd_tab b (rd_chs b (rd_hd b p x).2.2 (rd_hd b p x).2.1).2.2 (rd_chs b (rd_hd b p x).2.2 (rd_hd b p x).2.1).2.1).2 f r s (rd_chs b (rd_hd b p x).2.2 (rd_hd b p x).2.1).2.2) := by unfold rd_fin; rw [if_pos g, if_pos e9]
            refine mj_iconst (v := 1) d_Re_read_119 (by decide) ?_
            refine mj_goto (tgt := 124) d_Re_read_120 (by decide) ?_
            exact mj_zret rfl rfl d_Re_read_124 ⟨by rw [er, ef, if_pos g], by rw [er, ef]⟩
          · refine mj_aload_n d_Re_read_108 rfl ?_
            refine mj_aload_n d_Re_read_109 rfl ?_
            refine mj_get ok_Re (k := 4) (by decide) fl_Re_24 d_Re_read_110 u40 rfl ?_
            have ne : ¬ (rd_lc b (rd_chs b (rd_hd b p x).2.2 (rd_hd b p x).2.1).2.2.2.1 (rf_ln (rd_tab b (rd_chs b (rd_hd b p x).2.2 (rd_hd b p x).2.1).2.2 (rd_chs b (rd_hd b p x).2.2 (rd_hd b p x).2.1).2.1).2.2.2.1) (rd_chs b (rd_hd b p x).2.2 (rd_hd b p x).2.1).2.2.2.1 0 (rd_tab b (rd_chs b (rd_hd b p x).2.2 (rd_hd b p x).2.1).2.2 (rd_chs b (rd_hd b p x).2.2 (rd_hd b p x).2.1).2.1).2 f r s (rd_chs b (rd_hd b p x).2.2 (rd_hd b p x).2.1).2.2).2.1.2.2.2 = b.1 := fun e0 => c_105 (by rw [e0])
            have ef : rd_fin b (rd_lc b (rd_chs b (rd_hd b p x).2.2 (rd_hd b p x).2.1).2.2.2.1 (rf_ln (rd_tab b (rd_chs b (rd_hd b p x).2.2 (rd_hd b p x).2.1).2.2 (rd_chs b (rd_hd b p x).2.2 (rd_hd b p x).2.1).2.1).2.2.2.1) (rd_chs b (rd_hd b p x).2.2 (rd_hd b p x).2.1).2.2.2.1 0 (rd_tab b (rd_chs b (rd_hd b p x).2.2 (rd_hd b p x).2.1).2.2 (rd_chs b (rd_hd b p x).2.2 (rd_hd b p x).2.1).2.1).2 f r s (rd_chs b (rd_hd b p x).2.2 (rd_hd b p x).2.1).2.2) = (false, rd_fl (rd_lc b (rd_chs b (rd_hd b p x).2.2 (rd_hd b p x).2.1).2.2.2.1 (rf_ln (rd_tab b (rd_chs b (rd_hd b p x).2.2 (rd_hd b p x).2.1).2.2 (rd_chs b (rd_hd b p x).2.2 (rd_hd b p x).2.1).2.1).2.2.2.1) (rd_chs b (rd_hd b p x).2.2 (rd_hd b p x).2.1).2.2.2.1 0 (rd_tab b (rd_chs b (rd_hd b p x).2.2 (rd_hd b p x).2.1).2.2 (rd_chs b (rd_hd b p x).2.2 (rd_hd b p x).2.1).2.1).2 f r s (rd_chs b (rd_hd b p x).2.2 (rd_hd b p x).2.1).2.2).2.1 (nI (rd_lc b (rd_chs b (rd_hd b p x).2.2 (rd_hd b p x).2.1).2.2.2.1 (rf_ln (rd_tab b (rd_chs b (rd_hd b p x).2.2 (rd_hd b p x).2.1).2.2 (rd_chs b (rd_hd b p x).2.2 (rd_hd b p x).2.1).2.1).2.2.2.1) (rd_chs b (rd_hd b p x).2.2 (rd_hd b p x).2.1).2.2.2.1 0 (rd_tab b (rd_chs b (rd_hd b p x).2.2 (rd_hd b p x).2.1).2.2 (rd_chs b (rd_hd b p x).2.2 (rd_hd b p x).2.1).2.1).2 f r s (rd_chs b (rd_hd b p x).2.2 (rd_hd b p x).2.1).2.2).2.1.2.2.2), (rd_lc b (rd_chs b (rd_hd b p x).2.2 (rd_hd b p x).2.1).2.2.2.1 (rf_ln (rd_tab b (rd_chs b (rd_hd b p x).2.2 (rd_hd b p x).2.1).2.2 (rd_chs b (rd_hd b p x).2.2 (rd_hd b p x).2.1).2.1).2.2.2.1) (rd_chs b (rd_hd b p x).2.2 (rd_hd b p x).2.1).2.2.2.1 0 (rd_tab b (rd_chs b (rd_hd b p x).2.2 (rd_hd b p x).2.1).2.2 (rd_chs b (rd_hd b p x).2.2 (rd_hd b p x).2.1).2.1).2 f r s (rd_chs b (rd_hd b p x).2.2 (rd_hd b p x).2.1).2.2).2.2) := by unfold rd_fin; rw [if_pos g, if_neg ne]
            refine mj_cV (S := []) (S1 := [.int 0]) (c_Re_failsAt R4.1 (nI (rd_lc b (rd_chs b (rd_hd b p x).2.2 (rd_hd b p x).2.1).2.2.2.1 (rf_ln (rd_tab b (rd_chs b (rd_hd b p x).2.2 (rd_hd b p x).2.1).2.2 (rd_chs b (rd_hd b p x).2.2 (rd_hd b p x).2.1).2.1).2.2.2.1) (rd_chs b (rd_hd b p x).2.2 (rd_hd b p x).2.1).2.2.2.1 0 (rd_tab b (rd_chs b (rd_hd b p x).2.2 (rd_hd b p x).2.1).2.2 (rd_chs b (rd_hd b p x).2.2 (rd_hd b p x).2.1).2.1).2 f r s (rd_chs b (rd_hd b p x).2.2 (rd_hd b p x).2.1).2.2).2.1.2.2.2)) d_Re_read_113 cw_Re_failsAt ml_Re_60 im_Re_failsAt se_Re_failsAt rfl u40 (by decide) rfl (Nat.le_of_ble_eq_true rfl) rfl rfl ?_
            rw [R4.x, R.uu bd7 bd7]
            refine mj_if_eq (tgt := 123) d_Re_read_116 (by decide) (fun _q => ?_) (fun _q => absurd rfl _q)
            refine mj_iconst (v := 0) d_Re_read_123 (by decide) ?_
            exact mj_zret rfl rfl d_Re_read_124 ⟨by rw [er, ef]; rfl, by rw [er, ef]⟩
        · have ef : rd_fin b (rd_lc b (rd_chs b (rd_hd b p x).2.2 (rd_hd b p x).2.1).2.2.2.1 (rf_ln (rd_tab b (rd_chs b (rd_hd b p x).2.2 (rd_hd b p x).2.1).2.2 (rd_chs b (rd_hd b p x).2.2 (rd_hd b p x).2.1).2.1).2.2.2.1) (rd_chs b (rd_hd b p x).2.2 (rd_hd b p x).2.1).2.2.2.1 0 (rd_tab b (rd_chs b (rd_hd b p x).2.2 (rd_hd b p x).2.1).2.2 (rd_chs b (rd_hd b p x).2.2 (rd_hd b p x).2.1).2.1).2 f r s (rd_chs b (rd_hd b p x).2.2 (rd_hd b p x).2.1).2.2) = (rd_lc b (rd_chs b (rd_hd b p x).2.2 (rd_hd b p x).2.1).2.2.2.1 (rf_ln (rd_tab b (rd_chs b (rd_hd b p x).2.2 (rd_hd b p x).2.1).2.2 (rd_chs b (rd_hd b p x).2.2 (rd_hd b p x).2.1).2.1).2.2.2.1) (rd_chs b (rd_hd b p x).2.2 (rd_hd b p x).2.1).2.2.2.1 0 (rd_tab b (rd_chs b (rd_hd b p x).2.2 (rd_hd b p x).2.1).2.2 (rd_chs b (rd_hd b p x).2.2 (rd_hd b p x).2.1).2.1).2 f r s (rd_chs b (rd_hd b p x).2.2 (rd_hd b p x).2.1).2.2) := by unfold rd_fin; rw [if_neg (by rw [g]; decide)]
          exact ⟨by rw [er, ef, if_neg (by rw [g]; decide)], by rw [er, ef, R.uu i2.1 bd7]⟩
      · rw [show (if (rd_tab b (rd_chs b (rd_hd b p x).2.2 (rd_hd b p x).2.1).2.2 (rd_chs b (rd_hd b p x).2.2 (rd_hd b p x).2.1).2.1).1 = true then (1 : Int32) else 0) = 0 by rw [g3]; rfl]
        refine mj_if_ne (tgt := 47) d_Re_read_42 (by decide) (fun _q => absurd rfl _q) (fun _q => ?_)
        have er : rd_all b x f r s p = (false, (rd_tab b (rd_chs b (rd_hd b p x).2.2 (rd_hd b p x).2.1).2.2 (rd_chs b (rd_hd b p x).2.2 (rd_hd b p x).2.1).2.1).2, f, r, s, (rd_chs b (rd_hd b p x).2.2 (rd_hd b p x).2.1).2.2) := by unfold rd_all; rw [if_pos g1, if_pos g2, if_neg (by rw [g3]; decide)]
        refine mj_iconst (v := 0) d_Re_read_45 (by decide) ?_
        exact mj_zret rfl rfl d_Re_read_46 ⟨by rw [er]; rfl, by rw [er]⟩
    · rw [show (if (rd_chs b (rd_hd b p x).2.2 (rd_hd b p x).2.1).1 = true then (1 : Int32) else 0) = 0 by rw [g2]; rfl]
      refine mj_if_eq (tgt := 45) d_Re_read_34 (by decide) (fun _q => ?_) (fun _q => absurd rfl _q)
      have er : rd_all b x f r s p = (false, (rd_chs b (rd_hd b p x).2.2 (rd_hd b p x).2.1).2.1, f, r, s, (rd_chs b (rd_hd b p x).2.2 (rd_hd b p x).2.1).2.2) := by unfold rd_all; rw [if_pos g1, if_neg (by rw [g2]; decide)]
      refine mj_iconst (v := 0) d_Re_read_45 (by decide) ?_
      exact mj_zret rfl rfl d_Re_read_46 ⟨by rw [er]; rfl, by rw [er]⟩
  · rw [show (if (rd_hd b p x).1 = true then (1 : Int32) else 0) = 0 by rw [g1]; rfl]
    refine mj_if_eq (tgt := 45) d_Re_read_26 (by decide) (fun _q => ?_) (fun _q => absurd rfl _q)
    have er : rd_all b x f r s p = (false, (rd_hd b p x).2.1, f, r, s, (rd_hd b p x).2.2) := by unfold rd_all; rw [if_neg (by rw [g1]; decide)]
    refine mj_iconst (v := 0) d_Re_read_45 (by decide) ?_
    exact mj_zret rfl rfl d_Re_read_46 ⟨by rw [er]; rfl, by rw [er]⟩
set_option maxRecDepth 100000 in
set_option maxHeartbeats 4000000 in
theorem c_Re_read {h : mj_H} {b : by_B} {f : Nat → Int32} {r s q : by_B} {a l t st m : Nat} {p : pi_P} (B : By h 1 2 1500 b) (C : Cf h f r s q a l t st m p) (hb : by_ok b) {v0 v1 v4 : Int32} {k0 u : Nat} (hr : h[14]? = some (.inr (5, [.int v0, .int v1, .int (nI k0), .ref u, .int v4]))) : mj_Met M_Re_read (6, 156, none) 0 0 [.ref 14, .ref 1, .ref a, .ref 3] h (mj_q (some (.int (if (rd_all b ((-2 : Int32), (0 : Int32), k0, 0) f r s p).1 = true then 1 else 0))) (rr_up h a l t st m (rd_all b ((-2 : Int32), (0 : Int32), k0, 0) f r s p).2.1 (rd_all b ((-2 : Int32), (0 : Int32), k0, 0) f r s p).2.2.1 (rd_all b ((-2 : Int32), (0 : Int32), k0, 0) f r s p).2.2.2.1 (rd_all b ((-2 : Int32), (0 : Int32), k0, 0) f r s p).2.2.2.2.1 q (rd_all b ((-2 : Int32), (0 : Int32), k0, 0) f r s p).2.2.2.2.2)) := by
  refine mj_enter (r := 2) rfl rfl (by decide) rfl ?_
  show mj_W M_Re_read _ _ _ _ 0 [some (.ref 14), some (.ref 1), some (.ref a), some (.ref 3), none, none] [] h
  refine mj_aload_n d_Re_read_0 rfl ?_
  refine mj_aload_n d_Re_read_1 rfl ?_
  refine mj_put ok_Re (k := 3) (by decide) fl_Re_20 rfl (fun _ => rfl) (fun _ => rfl) (Nat.le_of_ble_eq_true rfl) d_Re_read_2 hr ?_
  obtain ⟨hh1, e_hh1⟩ : ∃ q_ : mj_H, q_ = h.set 14 (.inr (5, [.int v0, .int v1, .int (nI k0), .ref 1, .int v4])) := ⟨_, rfl⟩
  refine mj_hp e_hh1 ?_
  have k2 : hh1[14]? = some (.inr (5, [.int v0, .int v1, .int (nI k0), .ref 1, .int v4])) := by rw [e_hh1]; exact mj_sS hr
  refine mj_aload_n d_Re_read_5 rfl ?_
  refine mj_iconst (v := 0) d_Re_read_6 (by decide) ?_
  refine mj_put ok_Re (k := 4) (by decide) fl_Re_24 rfl (fun _ => rfl) (fun _ => rfl) (Nat.le_of_ble_eq_true rfl) d_Re_read_7 k2 ?_
  obtain ⟨hh3, e_hh3⟩ : ∃ q_ : mj_H, q_ = hh1.set 14 (.inr (5, [.int v0, .int v1, .int (nI k0), .ref 1, .int 0])) := ⟨_, rfl⟩
  refine mj_hp e_hh3 ?_
  have k4 : hh3[14]? = some (.inr (5, [.int v0, .int v1, .int (nI k0), .ref 1, .int 0])) := by rw [e_hh3]; exact mj_sS k2
  refine mj_aload_n d_Re_read_10 rfl ?_
  refine mj_bipush (v := (-2)) d_Re_read_11 (by decide) ?_
  refine mj_put ok_Re (k := 0) (by decide) fl_Re_9 rfl (fun _ => rfl) (fun _ => rfl) (Nat.le_of_ble_eq_true rfl) d_Re_read_13 k4 ?_
  obtain ⟨hh5, e_hh5⟩ : ∃ q_ : mj_H, q_ = hh3.set 14 (.inr (5, [.int (-2), .int v1, .int (nI k0), .ref 1, .int 0])) := ⟨_, rfl⟩
  refine mj_hp e_hh5 ?_
  have k6 : hh5[14]? = some (.inr (5, [.int (-2), .int v1, .int (nI k0), .ref 1, .int 0])) := by rw [e_hh5]; exact mj_sS k4
  refine mj_aload_n d_Re_read_16 rfl ?_
  refine mj_iconst (v := 0) d_Re_read_17 (by decide) ?_
  refine mj_put ok_Re (k := 1) (by decide) fl_Re_27 rfl (fun _ => rfl) (fun _ => rfl) (Nat.le_of_ble_eq_true rfl) d_Re_read_18 k6 ?_
  obtain ⟨hh7, e_hh7⟩ : ∃ q_ : mj_H, q_ = hh5.set 14 (.inr (5, [.int (-2), .int 0, .int (nI k0), .ref 1, .int 0])) := ⟨_, rfl⟩
  refine mj_hp e_hh7 ?_
  have k8 : hh7[14]? = some (.inr (5, [.int (-2), .int 0, .int (nI k0), .ref 1, .int 0])) := by rw [e_hh7]; exact mj_sS k6
  have eh : hh7 = h.set 14 (rd_o ((-2 : Int32), (0 : Int32), k0, 0)) := by rw [e_hh7, e_hh5, e_hh3, e_hh1, List.set_set, List.set_set, List.set_set]; rfl
  rw [eh]
  have R : Rr (h.set 14 (rd_o ((-2 : Int32), (0 : Int32), k0, 0))) b ((-2 : Int32), (0 : Int32), k0, 0) f r s q a l t st m p := ⟨⟨⟨mj_sN (by decide) B.1, mj_sN (by decide) B.2.1, B.2.2⟩, mj_sS hr⟩, C.s14⟩
  have ww := w_Re_read R hb (Nat.zero_le _)
  rw [rr_0 C.1.1.2.2.2.1] at ww
  exact ww
