def Rr (h : mj_H) (b : by_B) (x : rd_X) (f : Nat → Int32) (r s q : by_B) (a l t st m : Nat) (p : pi_P) : Prop := Rd h b x ∧ Cf h f r s q a l t st m p
def rr_up (h : mj_H) (a l t st m : Nat) (x : rd_X) (f : Nat → Int32) (r s q : by_B) (p : pi_P) : mj_H := ps_up (cf_up h f r s q) a l t st m x p
theorem Rr.ps {h : mj_H} {b : by_B} {x : rd_X} {f : Nat → Int32} {r s q : by_B} {a l t st m : Nat} {p : pi_P} (R : Rr h b x f r s q a l t st m p) : PS h b x a l t st m p := ⟨R.1, R.2.1.1.2.2.1, R.2.1.1.2.2.2.1, R.2.1.1.2.2.2.2⟩
theorem Rd.cf {h : mj_H} {b : by_B} {x : rd_X} {f : Nat → Int32} {r s q : by_B} (R : Rd h b x) : Rd (cf_up h f r s q) b x := ⟨⟨by rw [cf_fr (by decide)]; exact R.1.1, by rw [cf_fr (by decide)]; exact R.1.2.1, R.1.2.2⟩, by rw [cf_fr (by decide)]; exact R.2⟩
theorem Cf.s14 {h : mj_H} {f : Nat → Int32} {r s q : by_B} {a l t st m : Nat} {p : pi_P} (C : Cf h f r s q a l t st m p) {y : mj_C} : Cf (h.set 14 y) f r s q a l t st m p := by
  obtain ⟨⟨⟨c0, ⟨b1, b2, b3, b4⟩, P, z, hok⟩, ⟨wa, wb⟩⟩, ⟨k0, ⟨k1, k2, k3, k4⟩⟩, ⟨q1, q2, q3, q4⟩⟩ := C
  have e : ∀ i, i ≠ 14 → (h.set 14 y)[i]? = h[i]? := fun i h1 => List.getElem?_set_ne (Ne.symm h1)
  refine ⟨⟨⟨?_, ⟨?_, ?_, b3, b4⟩, P.via z (fun i hi => e i (by omega)), z, hok⟩, ⟨?_, ?_⟩⟩, ⟨?_, ⟨?_, ?_, k3, k4⟩⟩, ⟨?_, ?_, q3, q4⟩⟩ <;> (rw [e _ (by decide)]; assumption)
theorem Cf.pi {h : mj_H} {f : Nat → Int32} {r s q : by_B} {a l t st m : Nat} {p p' : pi_P} (C : Cf h f r s q a l t st m p) (hp : pi_bd p') (ho : pi_ok p') : Cf (pi_up h a l t st m p') f r s q a l t st m p' := by
  have z := C.1.1.2.2.2.1
  refine ⟨C.1.pi hp ho, ⟨?_, ⟨?_, ?_, C.2.1.2.2.2⟩⟩, ⟨?_, ?_, C.2.2.2.2⟩⟩
  · rw [pi_fr17 z (by decide)]; exact C.2.1.1
  · rw [pi_fr17 z (by decide)]; exact C.2.1.2.1
  · rw [pi_fr17 z (by decide)]; exact C.2.1.2.2.1
  · rw [pi_fr17 z (by decide)]; exact C.2.2.1
  · rw [pi_fr17 z (by decide)]; exact C.2.2.2.1
theorem Rr.up {h : mj_H} {b : by_B} {x : rd_X} {f : Nat → Int32} {r s q : by_B} {a l t st m : Nat} {p : pi_P} (R : Rr h b x f r s q a l t st m p) {x' : rd_X} {f' : Nat → Int32} {r' s' q' : by_B} {p' : pi_P} (hr : r'.1 ≤ 384) (hs : s'.1 ≤ 384) (hq : q'.1 ≤ 400) (hp : pi_bd p') (ho : pi_ok p') : Rr (rr_up h a l t st m x' f' r' s' q' p') b x' f' r' s' q' a l t st m p' :=
  ⟨(R.1.cf.pu R.2.1.1.2.2.2.1).up, ((R.2.up hr hs hq).pi hp ho).s14⟩
theorem Rr.idn {h : mj_H} {b : by_B} {x : rd_X} {f : Nat → Int32} {r s q : by_B} {a l t st m : Nat} {p : pi_P} (R : Rr h b x f r s q a l t st m p) : rr_up h a l t st m x f r s q p = h := by
  unfold rr_up
  rw [R.2.idn]
  exact R.ps.idn
theorem cf_set {h : mj_H} {f : Nat → Int32} {r s k : by_B} {i : Nat} {y : mj_C} (hi : 13 ≤ i) : cf_up (h.set i y) f r s k = (cf_up h f r s k).set i y := by
  unfold cf_up tb_up by_up wv_up
  rw [List.set_comm _ _ (show i ≠ 12 by omega), List.set_comm _ _ (show i ≠ 4 by omega), List.set_comm _ _ (show i ≠ 5 by omega), List.set_comm _ _ (show i ≠ 9 by omega), List.set_comm _ _ (show i ≠ 10 by omega), List.set_comm _ _ (show i ≠ 6 by omega), List.set_comm _ _ (show i ≠ 7 by omega)]
theorem cf_pi {h : mj_H} {f : Nat → Int32} {r s k : by_B} {a l t st m : Nat} {p : pi_P} (z : (17 ≤ a ∧ 17 ≤ l ∧ 17 ≤ t ∧ 17 ≤ st ∧ 17 ≤ m)) : cf_up (pi_up h a l t st m p) f r s k = pi_up (cf_up h f r s k) a l t st m p := by
  unfold pi_up
  rw [cf_set (by omega), cf_set (by omega), cf_set (by omega), cf_set (by omega), cf_set (by omega)]
theorem Rr.uu {h : mj_H} {b : by_B} {x : rd_X} {f : Nat → Int32} {r s q : by_B} {a l t st m : Nat} {p : pi_P} (R : Rr h b x f r s q a l t st m p) {x1 x2 : rd_X} {f1 f2 : Nat → Int32} {r1 s1 q1 r2 s2 q2 : by_B} {p1 p2 : pi_P} (h1 : pi_bd p1) (h2 : pi_bd p2) : rr_up (rr_up h a l t st m x1 f1 r1 s1 q1 p1) a l t st m x2 f2 r2 s2 q2 p2 = rr_up h a l t st m x2 f2 r2 s2 q2 p2 := by
  have z := R.2.1.1.2.2.2.1
  unfold rr_up ps_up
  rw [cf_set (by decide), cf_pi z, cf_uu, ← pi_set z (by decide), List.set_set]
  have P1 : Pi (cf_up h f2 r2 s2 q2) a l t st m p := R.2.1.1.2.2.1.via z (fun i hi => cf_fr (by omega))
  rw [P1.upup h1 h2]
theorem Rr.x {h : mj_H} {b : by_B} {x : rd_X} {f : Nat → Int32} {r s q : by_B} {a l t st m : Nat} {p : pi_P} (R : Rr h b x f r s q a l t st m p) {x' : rd_X} : h.set 14 (rd_o x') = rr_up h a l t st m x' f r s q p := by
  unfold rr_up
  rw [R.2.idn]
  exact R.ps.r
theorem Rr.p {h : mj_H} {b : by_B} {x : rd_X} {f : Nat → Int32} {r s q : by_B} {a l t st m : Nat} {p : pi_P} (R : Rr h b x f r s q a l t st m p) {x' : rd_X} {p' : pi_P} : ps_up h a l t st m x' p' = rr_up h a l t st m x' f r s q p' := by
  unfold rr_up
  rw [R.2.idn]
theorem Rr.c {h : mj_H} {b : by_B} {x : rd_X} {f : Nat → Int32} {r s q : by_B} {a l t st m : Nat} {p : pi_P} (R : Rr h b x f r s q a l t st m p) {f' : Nat → Int32} {r' s' q' : by_B} : cf_up h f' r' s' q' = rr_up h a l t st m x f' r' s' q' p := by
  unfold rr_up ps_up
  have P1 : Pi (cf_up h f' r' s' q') a l t st m p := R.2.1.1.2.2.1.via R.2.1.1.2.2.2.1 (fun i hi => cf_fr (by omega))
  rw [P1.idn]
  exact (mj_sE (by rw [cf_fr (by decide)]; exact R.1.2)).symm
theorem Rr.t {h : mj_H} {b : by_B} {x : rd_X} {f : Nat → Int32} {r s q : by_B} {a l t st m : Nat} {p : pi_P} (R : Rr h b x f r s q a l t st m p) {f' : Nat → Int32} {r' : by_B} {p' : pi_P} : tk_up h a l t st m f' r' p' = rr_up h a l t st m x f' r' s q p' := by
  have z := R.2.1.1.2.2.2.1
  unfold rr_up ps_up tk_up
  rw [R.2.tbb]
  exact (mj_sE (by rw [pi_fr17 z (by decide), cf_fr (by decide)]; exact R.1.2)).symm
theorem pa_upE_q (b2 : by_B) (e w : Nat) : ∀ (n pl : Nat) (b : by_B) (q : Nat) (b' : by_B), pa_upE b2 e w n pl b = (some q, b') → q < e
  | 0, _, _, _, _, h => by rw [pa_upE] at h; cases h
  | n + 1, pl, b, q, b', h => by
    rw [pa_upE] at h
    split at h
    · split at h
      · cases h; assumption
      · exact pa_upE_q b2 e w n _ _ q b' h
    · cases h
theorem pa_uns_cu (n : Nat) (b : by_B) : ∀ (j k : Nat) (t : by_B), (pa_uns n b j k t).2.1 = t.2.1
  | 0, _, _ => rfl
  | j + 1, k, t => by
    rw [pa_uns, pa_uns_cu n b j (k + 1)]
    unfold by_add; split <;> rfl
theorem by_addP_cu (n : Nat) (b : by_B) : ∀ (j k : Nat) (t : by_B), (by_addP n b j k t).2.1 = t.2.1
  | 0, _, _ => rfl
  | j + 1, k, t => by
    rw [by_addP, by_addP_cu n b j (k + 1)]
    unfold by_add; split <;> rfl
theorem nI_ne2 {q : Nat} (h : q < 2 ^ 31) : ¬ nI q = -2 := by
  intro e
  have h0 := nI_le (Nat.zero_le q) h
  rw [e] at h0
  exact absurd h0 (by decide)
theorem co_rd_cu {b : by_B} {x e w : Nat} {r s : by_B} (he : e < 2 ^ 31) (h : (co_rd b x e w r s).1 = -2) : (co_rd b x e w r s).2.1.2.1 = 0 := by
  unfold co_rd at h ⊢
  by_cases g : e - x < w
  · rw [if_pos g] at h ⊢
    unfold pa_upk at h ⊢
    rcases hq : pa_upE b e w e x (0, 0, s.2.2) with ⟨_ | v, b'⟩
    · rw [hq] at h
      by_cases g2 : b'.1 < w
      · simp only [if_pos g2] at h; exact absurd h (nI_ne2 he)
      · simp only [if_neg g2]; exact pa_uns_cu _ _ _ _ _
    · rw [hq] at h
      exact absurd h (nI_ne2 (by have := pa_upE_q _ _ _ _ _ _ _ _ hq; omega))
  · rw [if_neg g]
    exact by_addP_cu _ _ _ _ _
theorem pi_rwC_le (p : pi_P) (k y : Nat) (hp : p.1 ≤ 8) : ∀ (j c z : Nat), pi_rwC p k y j c z ≤ z + 32 * j
  | 0, _, _ => Nat.le_refl _
  | j + 1, c, z => by
    rw [pi_rwC]
    have h1 : pi_on p c p.1 * rf_by (p.2.2.2.2.1 c) k ≤ 32 := Nat.mul_le_mul (show pi_on p c p.1 ≤ 8 by unfold pi_on; split <;> omega) (rf_by_in _ _).2
    split
    · exact Nat.le_trans (pi_rwC_le p k y hp j (c + 1) _) (by omega)
    · exact Nat.le_trans (pi_rwC_le p k y hp j (c + 1) _) (by omega)
theorem pi_rwY_le (p : pi_P) (k : Nat) (hp : pi_bd p) : ∀ (j y z : Nat), pi_rwY p k j y z ≤ z + 96 * j
  | 0, _, _ => Nat.le_refl _
  | j + 1, y, z => by
    rw [pi_rwY]
    have h1 := pi_rwC_le p k y hp.1 p.2.2.1 0 z
    have h2 := hp.2.2
    exact Nat.le_trans (pi_rwY_le p k hp j (y + 1) _) (by omega)
theorem pi_raw_le (p : pi_P) (y k : Nat) (hp : pi_bd p) : pi_raw p y k ≤ 384 := by
  have h1 := pi_rwY_le p k hp (pi_end p y k - y) y 0
  have h2 : pi_end p y k - y ≤ 4 := by unfold pi_end; have := rf_ln_le k; split <;> omega
  unfold pi_raw
  omega
theorem tk_rd_pk {y k : Nat} {pk pk' : Prop} [Decidable pk] [Decidable pk'] {x : tt_X} (h : pk ↔ pk') : tk_rd y k pk x = tk_rd y k pk' x := by
  unfold tk_rd
  have e3 : (pk ∧ k = 3) ↔ (pk' ∧ k = 3) := by rw [h]
  have e2 : (pk ∧ k = 2) ↔ (pk' ∧ k = 2) := by rw [h]
  by_cases g : pk' ∧ k = 3
  · rw [if_pos g, if_pos (e3.mpr g)]
  · rw [if_neg g, if_neg (fun q => g (e3.mp q))]
    by_cases g2 : pk' ∧ k = 2
    · rw [if_pos g2, if_pos (e2.mpr g2)]
    · rw [if_neg g2, if_neg (fun q => g2 (e2.mp q))]
def rd_sz (b : by_B) (pl : Nat) : Nat := by_h b pl + 256 * by_h b (pl + 1)
theorem rd_two {b : by_B} (hb : by_ok b) (hl : b.1 ≤ 1500) {pl : Nat} (h : pl + 2 ≤ b.1) : by_two b (nI pl) = nI (rd_sz b pl) ∧ rd_sz b pl < 65536 := by
  have d1 := hb.at (k := pl) (by omega) (by omega)
  have d2 := hb.at (k := pl + 1) (by omega) (by omega)
  unfold by_two rd_sz
  rw [d1.1, show nI pl + 1 = nI (pl + 1) from nI_add _ 1, d2.1, show (256 : Int32) * nI (by_h b (pl + 1)) = nI (256 * by_h b (pl + 1)) from pk_mul 256 _, nI_add]
  exact ⟨rfl, by omega⟩
abbrev rc_X : Type := Bool × rd_X × (Nat → Int32) × by_B × by_B × pi_P
def rd_ckC (y k pl0 sz w : Nat) (x3 : rd_X) (f : Nat → Int32) (r s : by_B) (p : pi_P) : rc_X := if pi_okN (tk_rd y k (sz < w) (f, r, p)).2.2 y k = true then (true, x3, (tk_rd y k (sz < w) (f, r, p)).1, (tk_rd y k (sz < w) (f, r, p)).2.1, s, (tk_rd y k (sz < w) (f, r, p)).2.2) else (false, rd_fl x3 (nI pl0), (tk_rd y k (sz < w) (f, r, p)).1, (tk_rd y k (sz < w) (f, r, p)).2.1, s, (tk_rd y k (sz < w) (f, r, p)).2.2)
def rd_ckB (b : by_B) (y pl0 sz w : Nat) (x2 : rd_X) (f : Nat → Int32) (r s : by_B) (p : pi_P) : rc_X := if (co_rd b x2.2.2.2 (x2.2.2.2 + sz) w r s).1 = -2 then rd_ckC y x2.2.2.1 pl0 sz w (rd_go x2 sz) f (co_rd b x2.2.2.2 (x2.2.2.2 + sz) w r s).2.1 (co_rd b x2.2.2.2 (x2.2.2.2 + sz) w r s).2.2 p else (false, rd_fl x2 (co_rd b x2.2.2.2 (x2.2.2.2 + sz) w r s).1, f, (co_rd b x2.2.2.2 (x2.2.2.2 + sz) w r s).2.1, (co_rd b x2.2.2.2 (x2.2.2.2 + sz) w r s).2.2, p)
def rd_ckA (b : by_B) (y pl0 : Nat) (x1 : rd_X) (f : Nat → Int32) (r s : by_B) (p : pi_P) : rc_X :=
  if b.1 < x1.2.2.2 + 2 then (false, rd_fl x1 (nI b.1), f, r, s, p)
  else if pi_raw p y x1.2.2.1 < rd_sz b x1.2.2.2 ∨ (x1.2.2.1 = 0 ∧ rd_sz b x1.2.2.2 < pi_raw p y x1.2.2.1) then (false, rd_fl x1 (nI x1.2.2.2), f, r, s, p)
  else if b.1 < x1.2.2.2 + 2 + rd_sz b x1.2.2.2 then (false, rd_fl (rd_go x1 2) (nI b.1), f, r, s, p)
  else rd_ckB b y pl0 (rd_sz b x1.2.2.2) (pi_raw p y x1.2.2.1) (rd_go x1 2) f r s p
def rd_ck (b : by_B) (y : Nat) (x : rd_X) (f : Nat → Int32) (r s : by_B) (p : pi_P) : rc_X := if (rd_nx b (nI y) (nI y) x).1 = true then rd_ckA b y x.2.2.2 (rd_nx b (nI y) (nI y) x).2 f r s p else (false, (rd_nx b (nI y) (nI y) x).2, f, r, s, p)
/-- what stays so -/
def rc_in (b : by_B) (p : pi_P) (x : rd_X) (c : rc_X) : Prop := c.2.1.2.2.2 ≤ b.1 ∧ c.2.1.2.2.1 = x.2.2.1 ∧ c.2.2.2.1.1 ≤ 384 ∧ c.2.2.2.2.1.1 ≤ 384 ∧ pi_sm p c.2.2.2.2.2
theorem rd_ck_in {b : by_B} {y : Nat} {x : rd_X} {f : Nat → Int32} {r s : by_B} {p : pi_P} (hl : b.1 ≤ 1500) (hx : x.2.2.2 ≤ b.1) (hr : r.1 ≤ 384) (hs : s.1 ≤ 384) : rc_in b p x (rd_ck b y x f r s p) := by
  have q1 := rd_nx_pl b (nI y) (nI y) x hx
  unfold rd_ck
  split
  · rename_i g1
    unfold rd_ckA
    split
    · exact ⟨q1.1, q1.2, hr, hs, .rfl⟩
    · rename_i g2
      split
      · exact ⟨q1.1, q1.2, hr, hs, .rfl⟩
      · split
        · exact ⟨by show (rd_nx b (nI y) (nI y) x).2.2.2.2 + 2 ≤ b.1; omega, q1.2, hr, hs, .rfl⟩
        · rename_i g4
          have c1 := co_rd_le b (rd_go (rd_nx b (nI y) (nI y) x).2 2).2.2.2 ((rd_go (rd_nx b (nI y) (nI y) x).2 2).2.2.2 + rd_sz b (rd_nx b (nI y) (nI y) x).2.2.2.2) (pi_raw p y (rd_nx b (nI y) (nI y) x).2.2.2.1) r s hr hs
          unfold rd_ckB
          split
          · rename_i g5
            have c2 := co_rd_cu (by show (rd_nx b (nI y) (nI y) x).2.2.2.2 + 2 + rd_sz b (rd_nx b (nI y) (nI y) x).2.2.2.2 < 2 ^ 31; omega) g5
            have t1 := fun (k w sz : Nat) => tk_rd_in y k (sz < w) f _ p c1.1 (by rw [c2]; exact Nat.zero_le _)
            unfold rd_ckC
            split
            · exact ⟨by show (rd_nx b (nI y) (nI y) x).2.2.2.2 + 2 + rd_sz b (rd_nx b (nI y) (nI y) x).2.2.2.2 ≤ b.1; omega, q1.2, (t1 _ _ _).1, c1.2, (t1 _ _ _).2.2⟩
            · exact ⟨by show (rd_nx b (nI y) (nI y) x).2.2.2.2 + 2 + rd_sz b (rd_nx b (nI y) (nI y) x).2.2.2.2 ≤ b.1; omega, q1.2, (t1 _ _ _).1, c1.2, (t1 _ _ _).2.2⟩
          · exact ⟨by show (rd_nx b (nI y) (nI y) x).2.2.2.2 + 2 ≤ b.1; omega, q1.2, c1.1, c1.2, .rfl⟩
  · exact ⟨q1.1, q1.2, hr, hs, .rfl⟩
