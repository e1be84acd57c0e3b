/-! the arms: the class's answer beside the reference's -/
theorem GP.bd {p : pi_P} (h : GP p) : pi_bd p := ⟨h.1.2, h.2.1.2, h.2.2.1⟩
theorem GP.ok {p : pi_P} (h : GP p) : pi_ok p := fun c hc => (h.2.2.2 c hc).1
theorem w_vn (z : Int32) : vf_n64 (FP.dmul (FP.i2d z) 4593671619917905920) := (SX.w z).vn
theorem w_fin (z : Int32) : Fl.Fin64 (FP.dmul (FP.i2d z) 4593671619917905920) := by
  have hx := FP.Core.int32_abs z
  obtain ⟨c', a, h3, -⟩ := (SX.w z).fin (by omega) (by omega) (by omega)
  exact Fl.fin64_core.mpr ⟨_, _, _, h3⟩
theorem Lo.cf {H h : mj_H} (L : Lo H h) (f : Nat → Int32) (r s k : by_B) : Lo H (cf_up h f r s k) := (((L.set _ (by omega)).by (by omega) (by omega) _).by (by omega) (by omega) _).by (by omega) (by omega) _
theorem Ob.zz {h : mj_H} {b : by_B} {f : Nat → Int32} {r s q : by_B} {pa pb : Nat} {p p2 : pi_P} {v : Int32} (O : Ob h b f r s q pa pb p p2 v) : pa ≤ 22 ∧ pb ≤ 22 := by have := O.z; omega
theorem ar_begin {H : mj_H} (I : LI H) (x y : Int32) : ArI M_La_begin M_Mo_begin (7, 122, none) (1, 22, none) [.int x, .int y] H := by
  obtain ⟨b, f, r, s, q, pa, pb, p, p2, v, g, O, Mo, R, h4'⟩ := I
  have hc := c_RF_begin O x y
  have he := e_begin R x y
  by_cases c : 1 ≤ x ∧ x ≤ 8 ∧ 1 ≤ y ∧ y ≤ 8
  · rw [if_pos c] at hc
    obtain ⟨g', a1, a2, a3⟩ := he.1 c
    exact ArI.ok (fun F hF => la_begin_q x y O.1 hF hc) ((Lo.rf H).pi O.zz.1 _) h4' Mo (O.pic a3.2.1.bd a3.2.1.ok) (fun h hl => tm_begin hl a1) a2 a3
  · rw [if_neg c] at hc
    exact ArI.th (k := 1) (by decide) (la_begin_t1 x y O.1 hc) (Lo.rf H) h4' Mo O (fun h hl => tm_begin hl (he.2 c)) rfl (R.v5 1)
theorem ar_channel {H : mj_H} (I : LI H) (x y z : Int32) : ArI M_La_channel M_Mo_channel (7, 125, none) (1, 22, none) [.int x, .int y, .int z] H := by
  obtain ⟨b, f, r, s, q, pa, pb, p, p2, v, g, O, Mo, R, h4'⟩ := I
  have hc := c_RF_channel O x y z
  have he := e_channelM R x y z
  by_cases c : (¬ x < pi_lst p ∧ ¬ 122 < x) ∧ (¬ y < 0 ∧ ¬ 2 < y) ∧ (¬ z < 1 ∧ ¬ 2 < z)
  · rw [if_pos c] at hc
    by_cases e : p.2.2.1 < 3
    · rw [if_pos e] at hc
      obtain ⟨g', a1, a2, a3⟩ := (he.2 c).2 e
      exact ArI.ok (fun F hF => la_channel_q x y z O.1 hF hc) ((Lo.rf H).pi O.zz.1 _) h4' Mo (O.pic a3.2.1.bd a3.2.1.ok) (fun h hl => tm_channel hl a1) a2 a3
    · rw [if_neg e] at hc
      exact ArI.th (k := 2) (by decide) (la_channel_t2 x y z O.1 hc) (Lo.rf H) h4' Mo O (fun h hl => tm_channel hl ((he.2 c).1 e)) rfl (R.v5 2)
  · rw [if_neg c] at hc
    exact ArI.th (k := 1) (by decide) (la_channel_t1 x y z O.1 hc) (Lo.rf H) h4' Mo O (fun h hl => tm_channel hl (he.1 c)) rfl (R.v5 1)
theorem ar_set {H : mj_H} (I : LI H) (c x y z : Int32) : ArD M_La_set M_Mo_set (7, 125, none) (3, 76, none) [.int c, .int x, .int y, .double (FP.dmul (FP.i2d z) 4593671619917905920)] H := by
  obtain ⟨b, f, r, s, q, pa, pb, p, p2, v, g, O, Mo, R, h4'⟩ := I
  have hw := w_fin z
  have he := e_setM (w := FP.dmul (FP.i2d z) 4593671619917905920) R c x y z rfl
  generalize FP.dmul (FP.i2d z) 4593671619917905920 = w at hw he
  have hc := c_RF_set O c x y hw
  by_cases e1 : rf_val w
  · rw [if_pos e1] at hc
    by_cases e : pi_hs p c x y
    · rw [if_pos e] at hc
      obtain ⟨g', a1, a2, a3⟩ := (he.2 e1).2 e
      exact ArD.ok (fun F hF => la_set_q c x y w O.1 hF hc) ((Lo.rf H).pi O.zz.1 _) h4' Mo (O.pic a3.2.1.bd a3.2.1.ok) (fun h hl => tm_set hl a1) a2 a3
    · rw [if_neg e] at hc
      exact ArD.th (k := 2) (by decide) (la_set_t2 c x y w O.1 hc) (Lo.rf H) h4' Mo O (fun h hl => tm_set hl ((he.2 e1).1 e)) rfl (R.v5 2)
  · rw [if_neg e1] at hc
    exact ArD.th (k := 1) (by decide) (la_set_t1 c x y w O.1 hc) (Lo.rf H) h4' Mo O (fun h hl => tm_set hl (he.1 e1)) rfl (R.v5 1)
theorem ar_get {H : mj_H} (I : LI H) (c x y : Int32) : ArD M_La_get M_Mo_get (7, 123, none) (2, 50, none) [.int c, .int x, .int y] H := by
  obtain ⟨b, f, r, s, q, pa, pb, p, p2, v, g, O, Mo, R, h4'⟩ := I
  have hc := c_RF_get O c x y
  have he := e_getM R c x y
  by_cases e : pi_hs p c x y
  · rw [if_pos e] at hc
    exact ArD.ok (fun F hF => la_get_q c x y O.1 hF hc) (Lo.rf H) h4' Mo O (fun h hl => tm_get hl (he.1 e)) rfl (R.v5 0)
  · rw [if_neg e] at hc
    exact ArD.th (k := 1) (by decide) (la_get_t1 c x y O.1 hc) (Lo.rf H) h4' Mo O (fun h hl => tm_get hl (he.2 e)) rfl (R.v5 1)
theorem ar_bits {H : mj_H} (I : LI H) (c x y : Int32) : ArI M_La_bits M_Mo_bits (7, 123, none) (2, 45, none) [.int c, .int x, .int y] H := by
  obtain ⟨b, f, r, s, q, pa, pb, p, p2, v, g, O, Mo, R, h4'⟩ := I
  have hc := c_RF_bits O c x y
  have he := e_bitsM R c x y
  by_cases e : pi_hs p c x y
  · rw [if_pos e] at hc
    exact ArI.ok (fun F hF => la_bits_q c x y O.1 hF hc) (Lo.rf H) h4' Mo O (fun h hl => tm_bits hl (he.1 e)) rfl (R.v5 0)
  · rw [if_neg e] at hc
    exact ArI.th (k := 1) (by decide) (la_bits_t1 c x y O.1 hc) (Lo.rf H) h4' Mo O (fun h hl => tm_bits hl (he.2 e)) rfl (R.v5 1)
theorem ar_file {H : mj_H} (I : LI H) (x : Int32) : ArI M_La_file M_Mo_file (7, 121, none) (1, 22, none) [.int x] H := by
  obtain ⟨b, f, r, s, q, pa, pb, p, p2, v, g, O, Mo, R, h4'⟩ := I
  have hc := c_RF_file O x
  have he := e_fileM R x
  by_cases e : ¬ x < -1 ∧ x < nI b.1
  · rw [if_pos e] at hc
    exact ArI.ok (fun F hF => la_file_q x O.1 hF hc) (Lo.rf H) h4' Mo O (fun h hl => tm_file hl (he.1 e)) rfl (R.v5 0)
  · rw [if_neg e] at hc
    exact ArI.th (k := 1) (by decide) (la_file_t1 x O.1 hc) (Lo.rf H) h4' Mo O (fun h hl => tm_file hl (he.2 e)) rfl (R.v5 1)
theorem ar_count {H : mj_H} (I : LI H) (x : Int32) : ArI M_La_count M_Mo_count (7, 122, none) (1, 22, none) [.int x] H := by
  obtain ⟨b, f, r, s, q, pa, pb, p, p2, v, g, O, Mo, R, h4'⟩ := I
  have hc := c_RF_count O x
  have he := e_countM R x
  by_cases e : ¬ x < 0 ∧ ¬ 50 ≤ x ∧ x - x / 10 * 10 < 3
  · rw [if_pos e] at hc
    exact ArI.ok (fun F hF => la_count_q x O.1 hF hc) (Lo.rf H) h4' Mo O (fun h hl => tm_count hl (he.2 e)) rfl (R.v5 0)
  · rw [if_neg e] at hc
    exact ArI.th (k := 1) (by decide) (la_count_t1 x O.1 hc) (Lo.rf H) h4' Mo O (fun h hl => tm_count hl (he.1 e)) rfl (R.v5 1)
theorem ar_cut {H : mj_H} (I : LI H) (x : Int32) : ArI M_La_cut M_Mo_cut (7, 122, none) (1, 22, none) [.int x] H := by
  obtain ⟨b, f, r, s, q, pa, pb, p, p2, v, g, O, Mo, R, h4'⟩ := I
  have hc := c_RF_cut O x
  have he := e_cutM R x
  by_cases e : ¬ x < 0 ∧ x ≤ nI b.1
  · rw [if_pos e] at hc
    obtain ⟨g', a1, a2, a3⟩ := he.1 e
    exact ArI.ok (fun F hF => la_cut_q x O.1 hF hc) ((Lo.rf H).by (by omega) (by omega) _) h4' Mo (O.by a3.2.2.2.1.2.2.1 a3.2.2.2.1.2.2.2) (fun h hl => tm_cut hl a1) a2 a3
  · rw [if_neg e] at hc
    exact ArI.th (k := 1) (by decide) (la_cut_t1 x O.1 hc) (Lo.rf H) h4' Mo O (fun h hl => tm_cut hl (he.2 e)) rfl (R.v5 1)
theorem ar_patch {H : mj_H} (I : LI H) (x y : Int32) : ArI M_La_patch M_Mo_patch (7, 123, none) (1, 22, none) [.int x, .int y] H := by
  obtain ⟨b, f, r, s, q, pa, pb, p, p2, v, g, O, Mo, R, h4'⟩ := I
  have hc := c_RF_patch O x y
  have he := e_patchM R x y
  by_cases e : ¬ y < 0 ∧ y ≤ 255
  · rw [if_pos e] at hc
    by_cases e2 : ¬ x < 0 ∧ x ≤ nI b.1 ∧ x < 1500
    · rw [if_pos e2] at hc
      by_cases e3 : x = nI b.1
      · rw [if_pos e3] at hc
        obtain ⟨g', a1, a2, a3⟩ := ((he.2 e).2 e2).1 e3
        exact ArI.ok (fun F hF => la_patch_q x y O.1 hF hc) ((Lo.rf H).by (by omega) (by omega) _) h4' Mo (O.by a3.2.2.2.1.2.2.1 a3.2.2.2.1.2.2.2) (fun h hl => tm_patch hl a1) a2 a3
      · rw [if_neg e3] at hc
        obtain ⟨g', a1, a2, a3⟩ := ((he.2 e).2 e2).2 e3
        exact ArI.ok (fun F hF => la_patch_q x y O.1 hF hc) ((Lo.rf H).by (by omega) (by omega) _) h4' Mo (O.by a3.2.2.2.1.2.2.1 a3.2.2.2.1.2.2.2) (fun h hl => tm_patch hl a1) a2 a3
    · rw [if_neg e2] at hc
      exact ArI.th (k := 2) (by decide) (la_patch_t2 x y O.1 hc) (Lo.rf H) h4' Mo O (fun h hl => tm_patch hl ((he.2 e).1 e2)) rfl (R.v5 2)
  · rw [if_neg e] at hc
    exact ArI.th (k := 1) (by decide) (la_patch_t1 x y O.1 hc) (Lo.rf H) h4' Mo O (fun h hl => tm_patch hl (he.1 e)) rfl (R.v5 1)
theorem ar_spread {H : mj_H} (I : LI H) (c z : Int32) : ArD M_La_spread M_Mo_spread (7, 147, none) (2, 50, none) [.int c, .double (FP.dmul (FP.i2d z) 4593671619917905920)] H := by
  obtain ⟨b, f, r, s, q, pa, pb, p, p2, v, g, O, Mo, R, h4'⟩ := I
  have hw := w_fin z
  generalize FP.dmul (FP.i2d z) 4593671619917905920 = w at hw
  have hc := c_RF_spread O c hw
  have he := e_spreadM R c hw
  by_cases e1 : rf_val w
  · rw [if_pos e1] at hc
    by_cases e : ¬ c < 0 ∧ c < nI p.2.2.1
    · rw [if_pos e] at hc
      exact ArD.ok (fun F hF => la_spread_q c w O.1 hF hc) (Lo.rf H) h4' Mo O (fun h hl => tm_spread hl ((he.2 e1).2 e)) rfl (R.v5 0)
    · rw [if_neg e] at hc
      exact ArD.th (k := 2) (by decide) (la_spread_t2 c w O.1 hc) (Lo.rf H) h4' Mo O (fun h hl => tm_spread hl ((he.2 e1).1 e)) rfl (R.v5 2)
  · rw [if_neg e1] at hc
    exact ArD.th (k := 1) (by decide) (la_spread_t1 c w O.1 hc) (Lo.rf H) h4' Mo O (fun h hl => tm_spread hl (he.1 e1)) rfl (R.v5 1)
theorem e_enc1 {g : mo_G} (x : Int32) (hn : ¬ (¬ x < 0 ∧ x ≤ 3)) : r_encode x g = some (0, (upd g.1 5 1, g.2)) := by
  unfold r_encode
  have e0 : (if x < 0 then (0 : Int32) else if 3 < x then 0 else 1) = 0 := by
    by_cases q : x < 0
    · exact if_pos q
    · rw [if_neg q, if_pos]
      rcases Int32.lt_or_le 3 x with w | w
      · exact w
      · exact absurd ⟨q, w⟩ hn
  rw [e_in, Option.bind_some, e0, if_pos rfl, e_fail, Option.bind_some]
theorem e_enc2 {g : mo_G} (x : Int32) (hn : ¬ x < 0 ∧ x ≤ 3) (h0 : g.1 2 = 0) : r_encode x g = some (0, (upd g.1 5 2, g.2)) := by
  unfold r_encode
  have e0 : (if x < 0 then (0 : Int32) else if 3 < x then 0 else 1) = 1 := by
    rw [if_neg hn.1, if_neg (Int32.not_lt.mpr hn.2)]
  rw [e_in, Option.bind_some, e0, if_neg (show ¬ (1 : Int32) = 0 by decide), if_pos h0, e_fail, Option.bind_some]
theorem ar_encode {H : mj_H} (I : LI H) (x : Int32) : ArI M_La_encode M_Mo_encode (7, 177, none) (5, 118, none) [.int x] H := by
  obtain ⟨b, f, r, s, q, pa, pb, p, p2, v, g, O, Mo, R, h4'⟩ := I
  have hc := c_RF_encode O x
  by_cases c : ¬ x < 0 ∧ x ≤ 3
  · rw [if_pos c] at hc
    by_cases e : p.2.2.1 = 0
    · rw [if_pos e] at hc
      have h0 : g.1 2 = 0 := by rw [R.1.2.2.1, e]; rfl
      exact ArI.th (k := 2) (by decide) (la_encode_t2 x O.1 hc) (Lo.rf H) h4' Mo O (fun h hl => tm_encode hl (e_enc2 x c h0)) rfl (R.v5 2)
    · rw [if_neg e] at hc
      obtain ⟨k, hk, rfl⟩ := nI_of c.1
      have hk3 : k ≤ 3 := by
        have := c.2
        rw [show (3 : Int32) = nI 3 from rfl, nI_leI hk (by omega)] at this
        exact this
      rw [nI_clamp hk] at hc
      obtain ⟨g', a1, a2, a3, a4, a5⟩ := e_encode R.1 R.2.1 R.2.2.1 (show k < 4 by omega) e (b, f, r, s, q)
      have hin := wr_wr_in p k (b, f, r, s, q) ⟨O.2.1.2.2.1, O.2.2.1.1.1.2.1.2.2.1, O.2.2.1.2.1.2.2.2.1, O.2.2.1.2.2.2.2.1⟩
      have hok := by_ok_wr p k (b, f, r, s, q)
      have R' : RL g' (wr_wr p k (b, f, r, s, q)).1 p v := by
        obtain ⟨R1, R2, R3, R4, R5⟩ := R
        refine ⟨⟨(a2.1 0 (by omega) (by omega)).trans R1.1, (a2.1 1 (by omega) (by omega)).trans R1.2.1, (a2.1 2 (by omega) (by omega)).trans R1.2.2.1, fun c hc => ?_, fun k hk => ?_⟩, R2, R3, ⟨a3, a4, by omega, hok⟩, (a2.1 4 (by omega) (by omega)).trans R5⟩
        · rw [a2.2 0 (by omega), a2.2 1 (by omega), a2.2 2 (by omega)]
          exact R1.2.2.2.1 c hc
        · rw [a2.2 3 (by omega)]
          exact R1.2.2.2.2 k hk
      exact ArI.ok (fun F hF => la_encode_q (nI k) O.1 hF hc) (((Lo.rf H).by (by omega) (by omega) _).cf _ _ _ _) h4' Mo (O.fw hin.1 hin.2.1 hin.2.2.1 hin.2.2.2 hok) (fun h hl => tm_encode hl a1) (a2.1 5 (by omega) (by omega)) R'
  · rw [if_neg c] at hc
    exact ArI.th (k := 1) (by decide) (la_encode_t1 x O.1 hc) (Lo.rf H) h4' Mo O (fun h hl => tm_encode hl (e_enc1 x c)) rfl (R.v5 1)
theorem ar_decode {H : mj_H} (I : LI H) : ArI M_La_decode M_Mo_decode (8, 203, none) (4, 113, none) [] H := by
  obtain ⟨b, f, r, s, q, pa, pb, p, p2, v, g, O, Mo, R, h4'⟩ := I
  obtain ⟨v0, v1, k0, u, v4, h14⟩ := O.2.2.2.2.2.1
  have hc := c_RF_decode O h14
  obtain ⟨y, g', a1, a2, a3, a4, a5, a6⟩ := e_decode R.2.2.2.1 k0 f r s p2
  obtain ⟨i1, i2, i3, i4⟩ := rd_all_in (x := ((-2 : Int32), (0 : Int32), k0, 0)) (f := f) (r := r) (s := s) O.2.2.2.2.2.2.2.1 O.2.1.2.2.1 (Nat.zero_le _) ⟨O.2.2.2.1.2.2.2.2.2.2.1, O.2.2.2.1.2.2.2.2.2.2.2.1, O.2.2.2.1.2.2.2.2.2.2.2.2⟩ O.2.2.2.2.2.2.1 O.2.2.1.1.1.2.1.2.2.1 O.2.2.1.2.1.2.2.2.1
  generalize rd_all b ((-2 : Int32), (0 : Int32), k0, 0) f r s p2 = z at hc a4 a5 a6 i1 i2 i3 i4
  have hf : FI g' b := ⟨(a2 3 rfl).trans R.2.2.2.1.1, by rw [a3]; exact R.2.2.2.1.2.1, R.2.2.2.1.2.2⟩
  have O1 := O.rd (x' := z.2.1) (f' := z.2.2.1) i1 i2 i3 i4
  have L1 : Lo H (rr_up H pb (pb + 1) (pb + 2) (pb + 3) (pb + 4) z.2.1 z.2.2.1 z.2.2.2.1 z.2.2.2.2.1 q z.2.2.2.2.2) := (((Lo.rf H).cf _ _ _ _).pi O.zz.2 _).set _ (by omega)
  by_cases c : z.1 = true
  · rw [if_pos c] at hc
    obtain ⟨t1, t2, t3, t4, t5⟩ := a5 c
    subst t1
    exact ArI.ok (fun F hF => la_decode_q O.1 hF hc) (L1.set _ (by omega)) h4' Mo (O1.s0.2 O.2.2.1.1.1.2.2.2.2) (fun h hl => tm_decode hl a1) t2 ⟨t3, t4, t5, hf, a4⟩
  · rw [if_neg c] at hc
    obtain ⟨t1, t2, t3⟩ := a6 (by cases hz : z.1 with | true => exact absurd hz c | false => rfl)
    have R' : RL g' b p z.2.1.1 := by
      obtain ⟨R1, R2, R3, R4, R5⟩ := R
      refine ⟨⟨(t2 0 (by omega)).trans R1.1, (t2 1 (by omega)).trans R1.2.1, (t2 2 (by omega)).trans R1.2.2.1, fun c hc => ?_, fun k hk => ?_⟩, R2, R3, hf, a4⟩
      · rw [t3 0 (by omega), t3 1 (by omega), t3 2 (by omega)]
        exact R1.2.2.2.1 c hc
      · rw [t3 3 (by omega)]
        exact R1.2.2.2.2 k hk
    by_cases e : z.2.1.2.1 = 0
    · rw [if_pos e] at hc t1
      exact ArI.th (k := 1) (by decide) (la_decode_t1 O.1 hc) (L1.set _ (by omega)) h4' Mo O1.s0.1 (fun h hl => tm_decode hl a1) t1 R'
    · rw [if_neg e] at hc t1
      exact ArI.th (k := 2) (by decide) (la_decode_t2 O.1 hc) (L1.set _ (by omega)) h4' Mo O1.s0.1 (fun h hl => tm_decode hl a1) t1 R'
theorem ar_where {H : mj_H} (I : LI H) : ∃ (v : Int32) (H2 : mj_H), (∃ fs, H[0]? = some (.inr (0, fs))) ∧ (∃ fs, H[27]? = some (.inr (8, fs))) ∧ mj_Met M_RF_where (0, 0, none) 0 0 [.ref 0] H (mj_q (some (.int v)) H) ∧ mj_Met M_Mo_where (0, 0, none) 0 0 [.ref 27] H (mj_q (some (.int v)) H2) ∧ LI H2 := by
  obtain ⟨b, f, r, s, q, pa, pb, p, p2, v, g, O, Mo, R, h4'⟩ := I
  have h := tm_where (h := H) (g := g) (r := (g.1 4, (upd g.1 5 0, g.2))) (by have := Mo.2; omega) rfl
  rw [Mo.1] at h
  have e : g.1 4 = v := R.2.2.2.2
  rw [show ((g.1 4, (upd g.1 5 0, g.2)) : Int32 × mo_G).1 = v from e] at h
  exact ⟨v, _, ⟨_, O.1⟩, Mo.c27, c_RF_where O, h, (LI.mk Mo O h4' (R.v5 0)).2⟩
