noncomputable def j_isNone_47 : Option Int32 := some 0
set_option maxRecDepth 100000 in
set_option maxHeartbeats 4000000 in
theorem tj_isNone_47 {h : mj_H} {r : Int32} (hk : j_isNone_47 = some r) : mj_W M_Mo_isNone (mj_q (some (.int r)) h) (0, 0, none) 0 0 47 [none, none] [] h := by
  unfold j_isNone_47 at hk
  refine mj_iconst (v := 0) d_Mo_isNone_47 (by decide) ?_
  cases hk
  exact mj_zret rfl rfl d_Mo_isNone_48 ⟨rfl, rfl⟩
noncomputable def r_isNone (x0 : Int32) (x1 : Int32) : Option Int32 := if x0 = 0 then (if ((((x1 >>> (10 &&& 31))) &&& 31)) = 31 then (some 1) else (some 0)) else (if x0 = 1 then (if ((((x1 >>> (23 &&& 31))) &&& 255)) = 255 then (some 1) else (j_isNone_47 )) else (j_isNone_47 ))
set_option maxRecDepth 100000 in
set_option maxHeartbeats 4000000 in
theorem tm_isNone {h : mj_H} {r : Int32} {x0 : Int32} {x1 : Int32} (hk : r_isNone x0 x1 = some r) : mj_Met M_Mo_isNone (0, 0, none) 0 0 [.int x0, .int x1] h (mj_q (some (.int r)) h) := by
  unfold r_isNone at hk
  refine mj_enter (r := 0) rfl rfl (by decide) rfl ?_
  show mj_W M_Mo_isNone _ _ _ _ 0 [some (.int x0), some (.int x1)] [] h
  refine mj_iload_n d_Mo_isNone_0 rfl ?_
  refine mj_if_ne (tgt := 24) d_Mo_isNone_1 (by decide) (fun c_1 => ?_) (fun c_1 => ?_)
  · replace hk := og_neg c_1 hk
    refine mj_iload_n d_Mo_isNone_24 rfl ?_
    refine mj_iconst (v := 1) d_Mo_isNone_25 (by decide) ?_
    refine mj_icmp_ne (tgt := 47) d_Mo_isNone_26 (by decide) (fun c_26 => ?_) (fun c_26 => ?_)
    · replace hk := og_neg c_26 hk
      refine mj_fg 0 (L' := [none, some (.int x1)]) rfl ?_
      refine mj_fg 1 (L' := [none, none]) rfl ?_
      exact tj_isNone_47 hk
    · replace hk := og_pos c_26 hk
      refine mj_iload_n d_Mo_isNone_29 rfl ?_
      refine mj_bipush (v := 23) d_Mo_isNone_30 (by decide) ?_
      refine mj_ishr d_Mo_isNone_32 ?_
      refine mj_sipush (v := 255) d_Mo_isNone_33 (by decide) ?_
      refine mj_iand d_Mo_isNone_36 ?_
      refine mj_sipush (v := 255) d_Mo_isNone_37 (by decide) ?_
      refine mj_icmp_ne (tgt := 47) d_Mo_isNone_40 (by decide) (fun c_40 => ?_) (fun c_40 => ?_)
      · replace hk := og_neg c_40 hk
        refine mj_fg 0 (L' := [none, some (.int x1)]) rfl ?_
        refine mj_fg 1 (L' := [none, none]) rfl ?_
        exact tj_isNone_47 hk
      · replace hk := og_pos c_40 hk
        refine mj_iconst (v := 1) d_Mo_isNone_43 (by decide) ?_
        refine mj_goto (tgt := 48) d_Mo_isNone_44 (by decide) ?_
        cases hk
        exact mj_zret rfl rfl d_Mo_isNone_48 ⟨rfl, rfl⟩
  · replace hk := og_pos c_1 hk
    refine mj_iload_n d_Mo_isNone_4 rfl ?_
    refine mj_bipush (v := 10) d_Mo_isNone_5 (by decide) ?_
    refine mj_ishr d_Mo_isNone_7 ?_
    refine mj_bipush (v := 31) d_Mo_isNone_8 (by decide) ?_
    refine mj_iand d_Mo_isNone_10 ?_
    refine mj_bipush (v := 31) d_Mo_isNone_11 (by decide) ?_
    refine mj_icmp_ne (tgt := 20) d_Mo_isNone_13 (by decide) (fun c_13 => ?_) (fun c_13 => ?_)
    · replace hk := og_neg c_13 hk
      refine mj_iconst (v := 0) d_Mo_isNone_20 (by decide) ?_
      refine mj_goto (tgt := 48) d_Mo_isNone_21 (by decide) ?_
      cases hk
      exact mj_zret rfl rfl d_Mo_isNone_48 ⟨rfl, rfl⟩
    · replace hk := og_pos c_13 hk
      refine mj_iconst (v := 1) d_Mo_isNone_16 (by decide) ?_
      refine mj_goto (tgt := 48) d_Mo_isNone_17 (by decide) ?_
      cases hk
      exact mj_zret rfl rfl d_Mo_isNone_48 ⟨rfl, rfl⟩
noncomputable def l_isSound_24 (K : Int32 → Int32 → Int32 → Int32 → mo_G → Option (Prod Int32 mo_G)) : Nat → Int32 → Int32 → Int32 → Int32 → Int32 → mo_G → Option (Prod Int32 mo_G)
  | 0, _, _, _, _, _, _ => none
  | n + 1, x1, x2, x3, x4, x5, g => if (g.1 10) ≤ x5 then (K x1 x2 x3 x4 g) else (og (vp_in (x3 : Int32) 3) (og (vp_in (((((64 * x3) + (8 * x4))) + x5) : Int32) 192) ((r_isNone (((g.2 6) (x3 : Int32).toNatClampNeg)) (((g.2 8) (((((64 * x3) + (8 * x4))) + x5) : Int32).toNatClampNeg))).bind (fun z3 => if z3 = 0 then ((fun x1 x2 x3 x4 x5 g => l_isSound_24 K n x1 x2 x3 x4 x5 g) x1 x2 x3 x4 (x5 + 1) g) else (some (0, g))))))
set_option maxRecDepth 100000 in
set_option maxHeartbeats 4000000 in
theorem tl_isSound_24 {h : mj_H} {r : (Prod Int32 mo_G)} (hl : 39 < h.length) {K : Int32 → Int32 → Int32 → Int32 → mo_G → Option (Prod Int32 mo_G)} (hK : (∀ (x1 : Int32) (x2 : Int32) (x3 : Int32) (x4 : Int32) (g : mo_G), K x1 x2 x3 x4 g = some r → mj_W M_Mo_isSound (mj_q (some (.int r.1)) (mo_up h r.2)) (1, 21, none) 0 0 71 [some (.ref 27), some (.int x1), some (.int x2), some (.int x3), some (.int x4), none] [] (mo_up h g))) : ∀ (n : Nat) (x1 : Int32) (x2 : Int32) (x3 : Int32) (x4 : Int32) (x5 : Int32) (g : mo_G), l_isSound_24 K n x1 x2 x3 x4 x5 g = some r → mj_W M_Mo_isSound (mj_q (some (.int r.1)) (mo_up h r.2)) (1, 21, none) 0 0 24 [some (.ref 27), some (.int x1), some (.int x2), some (.int x3), some (.int x4), some (.int x5)] [] (mo_up h g) := by
  intro n
  induction n with
  | zero =>
    intro x1 x2 x3 x4 x5 g hk
    cases hk
  | succ n hbk =>
    intro x1 x2 x3 x4 x5 g hk
    rw [l_isSound_24] at hk
    refine mj_iload d_Mo_isSound_24 rfl ?_
    refine mj_aload_n d_Mo_isSound_26 rfl ?_
    refine mj_get ok_Mo (k := 22) (v := .int (g.1 10)) (by decide) fl_Mo_191 d_Mo_isSound_27 (mo_h hl) rfl ?_
    refine mj_icmp_ge (tgt := 71) d_Mo_isSound_30 (by decide) (fun c_30 => ?_) (fun c_30 => ?_)
    · replace hk := og_pos c_30 hk
      refine mj_fg 5 (L' := [some (.ref 27), some (.int x1), some (.int x2), some (.int x3), some (.int x4), none]) rfl ?_
      exact hK _ _ _ _ _ hk
    · replace hk := og_neg c_30 hk
      refine mj_aload_n d_Mo_isSound_33 rfl ?_
      refine mj_get ok_Mo (k := 12) (v := .ref 34) (by decide) fl_Mo_41 d_Mo_isSound_34 (mo_h hl) rfl ?_
      refine mj_iload_n d_Mo_isSound_37 rfl ?_
      have q1 := og_1 hk
      replace hk := og_2 hk
      refine mj_iald (f := (g.2 6)) d_Mo_isSound_38 (mo_a6 hl) q1 ?_
      refine mj_aload_n d_Mo_isSound_39 rfl ?_
      refine mj_get ok_Mo (k := 14) (v := .ref 36) (by decide) fl_Mo_47 d_Mo_isSound_40 (mo_h hl) rfl ?_
      refine mj_bipush (v := 64) d_Mo_isSound_43 (by decide) ?_
      refine mj_iload_n d_Mo_isSound_45 rfl ?_
      refine mj_imul d_Mo_isSound_46 ?_
      refine mj_bipush (v := 8) d_Mo_isSound_47 (by decide) ?_
      refine mj_iload d_Mo_isSound_49 rfl ?_
      refine mj_imul d_Mo_isSound_51 ?_
      refine mj_iadd d_Mo_isSound_52 ?_
      refine mj_iload d_Mo_isSound_53 rfl ?_
      refine mj_iadd d_Mo_isSound_55 ?_
      have q2 := og_1 hk
      replace hk := og_2 hk
      refine mj_iald (f := (g.2 8)) d_Mo_isSound_56 (mo_a8 hl) q2 ?_
      obtain ⟨z3, hz3, hk⟩ := og_b hk
      refine mj_cS (S := []) (S1 := [.int z3]) (tm_isNone hz3) d_Mo_isSound_57 cw_Mo_isNone ml_Mo_217 st_Mo_isNone (by decide) rfl (Nat.le_of_ble_eq_true rfl) rfl rfl ?_
      refine mj_if_eq (tgt := 65) d_Mo_isSound_60 (by decide) (fun c_60 => ?_) (fun c_60 => ?_)
      · replace hk := og_pos c_60 hk
        refine mj_iinc (x := x5) (v := x5 + 1) (L' := [some (.ref 27), some (.int x1), some (.int x2), some (.int x3), some (.int x4), some (.int (x5 + 1))]) d_Mo_isSound_65 rfl rfl (by decide) rfl rfl ?_
        refine mj_goto (tgt := 24) d_Mo_isSound_68 (by decide) ?_
        exact hbk _ _ _ _ _ _ hk
      · replace hk := og_neg c_60 hk
        refine mj_iconst (v := 0) d_Mo_isSound_63 (by decide) ?_
        cases hk
        exact mj_zret rfl rfl d_Mo_isSound_64 ⟨rfl, rfl⟩
noncomputable def l_isSound_13 (K : Int32 → Int32 → Int32 → mo_G → Option (Prod Int32 mo_G)) : Nat → Int32 → Int32 → Int32 → Int32 → mo_G → Option (Prod Int32 mo_G)
  | 0, _, _, _, _, _ => none
  | n + 1, x1, x2, x3, x4, g => if (x1 + x2) ≤ x4 then (K x1 x2 x3 g) else (l_isSound_24 (fun y5 y6 y7 y8 g4 => (fun x1 x2 x3 x4 g => l_isSound_13 K n x1 x2 x3 x4 g) y5 y6 y7 (y8 + 1) g4) 2000 x1 x2 x3 x4 0 g)
set_option maxRecDepth 100000 in
set_option maxHeartbeats 4000000 in
theorem tl_isSound_13 {h : mj_H} {r : (Prod Int32 mo_G)} (hl : 39 < h.length) {K : Int32 → Int32 → Int32 → mo_G → Option (Prod Int32 mo_G)} (hK : (∀ (x1 : Int32) (x2 : Int32) (x3 : Int32) (g : mo_G), K x1 x2 x3 g = some r → mj_W M_Mo_isSound (mj_q (some (.int r.1)) (mo_up h r.2)) (1, 21, none) 0 0 77 [some (.ref 27), some (.int x1), some (.int x2), some (.int x3), none, none] [] (mo_up h g))) : ∀ (n : Nat) (x1 : Int32) (x2 : Int32) (x3 : Int32) (x4 : Int32) (g : mo_G), l_isSound_13 K n x1 x2 x3 x4 g = some r → mj_W M_Mo_isSound (mj_q (some (.int r.1)) (mo_up h r.2)) (1, 21, none) 0 0 13 [some (.ref 27), some (.int x1), some (.int x2), some (.int x3), some (.int x4), none] [] (mo_up h g) := by
  intro n
  induction n with
  | zero =>
    intro x1 x2 x3 x4 g hk
    cases hk
  | succ n hbk =>
    intro x1 x2 x3 x4 g hk
    rw [l_isSound_13] at hk
    refine mj_iload d_Mo_isSound_13 rfl ?_
    refine mj_iload_n d_Mo_isSound_15 rfl ?_
    refine mj_iload_n d_Mo_isSound_16 rfl ?_
    refine mj_iadd d_Mo_isSound_17 ?_
    refine mj_icmp_ge (tgt := 77) d_Mo_isSound_18 (by decide) (fun c_18 => ?_) (fun c_18 => ?_)
    · replace hk := og_pos c_18 hk
      refine mj_fg 4 (L' := [some (.ref 27), some (.int x1), some (.int x2), some (.int x3), none, none]) rfl ?_
      exact hK _ _ _ _ hk
    · replace hk := og_neg c_18 hk
      refine mj_iconst (v := 0) d_Mo_isSound_21 (by decide) ?_
      refine mj_istore (L' := [some (.ref 27), some (.int x1), some (.int x2), some (.int x3), some (.int x4), some (.int 0)]) d_Mo_isSound_22 (by decide) rfl rfl ?_
      refine tl_isSound_24 hl ?_ 2000 _ _ _ _ _ _ hk
      intro y5 y6 y7 y8 g4 hk
      refine mj_iinc (x := y8) (v := y8 + 1) (L' := [some (.ref 27), some (.int y5), some (.int y6), some (.int y7), some (.int (y8 + 1)), none]) d_Mo_isSound_71 rfl rfl (by decide) rfl rfl ?_
      refine mj_goto (tgt := 13) d_Mo_isSound_74 (by decide) ?_
      exact hbk _ _ _ _ _ hk
noncomputable def l_isSound_2 (K : mo_G → Option (Prod Int32 mo_G)) : Nat → Int32 → Int32 → Int32 → mo_G → Option (Prod Int32 mo_G)
  | 0, _, _, _, _ => none
  | n + 1, x1, x2, x3, g => if (g.1 12) ≤ x3 then (K g) else (l_isSound_13 (fun y10 y11 y12 g9 => (fun x1 x2 x3 g => l_isSound_2 K n x1 x2 x3 g) y10 y11 (y12 + 1) g9) 2000 x1 x2 x3 x1 g)
set_option maxRecDepth 100000 in
set_option maxHeartbeats 4000000 in
theorem tl_isSound_2 {h : mj_H} {r : (Prod Int32 mo_G)} (hl : 39 < h.length) {K : mo_G → Option (Prod Int32 mo_G)} (hK : (∀ (g : mo_G), K g = some r → mj_W M_Mo_isSound (mj_q (some (.int r.1)) (mo_up h r.2)) (1, 21, none) 0 0 83 [some (.ref 27), none, none, none, none, none] [] (mo_up h g))) : ∀ (n : Nat) (x1 : Int32) (x2 : Int32) (x3 : Int32) (g : mo_G), l_isSound_2 K n x1 x2 x3 g = some r → mj_W M_Mo_isSound (mj_q (some (.int r.1)) (mo_up h r.2)) (1, 21, none) 0 0 2 [some (.ref 27), some (.int x1), some (.int x2), some (.int x3), none, none] [] (mo_up h g) := by
  intro n
  induction n with
  | zero =>
    intro x1 x2 x3 g hk
    cases hk
  | succ n hbk =>
    intro x1 x2 x3 g hk
    rw [l_isSound_2] at hk
    refine mj_iload_n d_Mo_isSound_2 rfl ?_
    refine mj_aload_n d_Mo_isSound_3 rfl ?_
    refine mj_get ok_Mo (k := 24) (v := .int (g.1 12)) (by decide) fl_Mo_200 d_Mo_isSound_4 (mo_h hl) rfl ?_
    refine mj_icmp_ge (tgt := 83) d_Mo_isSound_7 (by decide) (fun c_7 => ?_) (fun c_7 => ?_)
    · replace hk := og_pos c_7 hk
      refine mj_fg 1 (L' := [some (.ref 27), none, some (.int x2), some (.int x3), none, none]) rfl ?_
      refine mj_fg 2 (L' := [some (.ref 27), none, none, some (.int x3), none, none]) rfl ?_
      refine mj_fg 3 (L' := [some (.ref 27), none, none, none, none, none]) rfl ?_
      exact hK _ hk
    · replace hk := og_neg c_7 hk
      refine mj_iload_n d_Mo_isSound_10 rfl ?_
      refine mj_istore (L' := [some (.ref 27), some (.int x1), some (.int x2), some (.int x3), some (.int x1), none]) d_Mo_isSound_11 (by decide) rfl rfl ?_
      refine tl_isSound_13 hl ?_ 2000 _ _ _ _ _ hk
      intro y10 y11 y12 g9 hk
      refine mj_iinc (x := y12) (v := y12 + 1) (L' := [some (.ref 27), some (.int y10), some (.int y11), some (.int (y12 + 1)), none, none]) d_Mo_isSound_77 rfl rfl (by decide) rfl rfl ?_
      refine mj_goto (tgt := 2) d_Mo_isSound_80 (by decide) ?_
      exact hbk _ _ _ _ hk
noncomputable def r_isSound (x1 : Int32) (x2 : Int32) (g : mo_G) : Option (Prod Int32 mo_G) := l_isSound_2 (fun  g13 => some (1, g13)) 2000 x1 x2 0 g
set_option maxRecDepth 100000 in
set_option maxHeartbeats 4000000 in
theorem tm_isSound {h : mj_H} {r : (Prod Int32 mo_G)} (hl : 39 < h.length) {x1 : Int32} {x2 : Int32} {g : mo_G} (hk : r_isSound x1 x2 g = some r) : mj_Met M_Mo_isSound (1, 21, none) 0 0 [.ref 27, .int x1, .int x2] (mo_up h g) (mj_q (some (.int r.1)) (mo_up h r.2)) := by
  unfold r_isSound at hk
  refine mj_enter (r := 3) rfl rfl (by decide) rfl ?_
  show mj_W M_Mo_isSound _ _ _ _ 0 [some (.ref 27), some (.int x1), some (.int x2), none, none, none] [] (mo_up h g)
  refine mj_iconst (v := 0) d_Mo_isSound_0 (by decide) ?_
  refine mj_istore_n (L' := [some (.ref 27), some (.int x1), some (.int x2), some (.int 0), none, none]) d_Mo_isSound_1 (by decide) rfl rfl ?_
  refine tl_isSound_2 hl ?_ 2000 _ _ _ _ hk
  intro  g13 hk
  refine mj_iconst (v := 1) d_Mo_isSound_83 (by decide) ?_
  cases hk
  exact mj_zret rfl rfl d_Mo_isSound_84 ⟨rfl, rfl⟩
noncomputable def j_readChunk_222 (x1 : Int32) (x2 : Int32) (x3 : Int32) (x7 : Int32) (g : mo_G) : Option mo_G := (r_isSound x1 x2 (upd g.1 8 x7, g.2)).bind (fun z6 => if z6.1 = 0 then ((r_wrong x3 1 z6.2).bind (fun z7 => some z7)) else (some z6.2))
set_option maxRecDepth 100000 in
set_option maxHeartbeats 4000000 in
theorem tj_readChunk_222 {h : mj_H} {r : mo_G} (hl : 39 < h.length) {x1 : Int32} {x2 : Int32} {x3 : Int32} {x7 : Int32} {g : mo_G} (hk : j_readChunk_222 x1 x2 x3 x7 g = some r) : mj_W M_Mo_readChunk (mj_q none (mo_up h r)) (3, 85, none) 0 0 222 [some (.ref 27), some (.int x1), some (.int x2), some (.int x3), none, none, none, some (.int x7), none] [] (mo_up h g) := by
  unfold j_readChunk_222 at hk
  refine mj_aload_n d_Mo_readChunk_222 rfl ?_
  refine mj_iload d_Mo_readChunk_223 rfl ?_
  refine mj_put ok_Mo (k := 20) (by decide) fl_Mo_182 rfl (fun _ => rfl) (fun _ => rfl) (Nat.le_of_ble_eq_true rfl) d_Mo_readChunk_225 (mo_h hl) ?_
  refine mj_hp (h1 := mo_up h (upd g.1 8 x7, g.2)) (mo_p8 (g := g) hl x7) ?_
  refine mj_aload_n d_Mo_readChunk_228 rfl ?_
  refine mj_iload_n d_Mo_readChunk_229 rfl ?_
  refine mj_iload_n d_Mo_readChunk_230 rfl ?_
  obtain ⟨z6, hz6, hk⟩ := og_b hk
  refine mj_cV (S := []) (S1 := [.int z6.1]) (tm_isSound hl hz6) d_Mo_readChunk_231 cw_Mo_isSound ml_Mo_234 im_Mo_isSound se_Mo_isSound rfl (mo_h hl) (by decide) rfl (Nat.le_of_ble_eq_true rfl) rfl rfl ?_
  refine mj_istore (L' := [some (.ref 27), some (.int x1), some (.int x2), some (.int x3), none, none, none, some (.int x7), some (.int z6.1)]) d_Mo_readChunk_234 (by decide) rfl rfl ?_
  refine mj_iload d_Mo_readChunk_236 rfl ?_
  refine mj_if_ne (tgt := 247) d_Mo_readChunk_238 (by decide) (fun c_238 => ?_) (fun c_238 => ?_)
  · replace hk := og_neg c_238 hk
    cases hk
    exact mj_vret rfl d_Mo_readChunk_247 ⟨rfl, rfl⟩
  · replace hk := og_pos c_238 hk
    refine mj_aload_n d_Mo_readChunk_241 rfl ?_
    refine mj_iload_n d_Mo_readChunk_242 rfl ?_
    refine mj_iconst (v := 1) d_Mo_readChunk_243 (by decide) ?_
    obtain ⟨z7, hz7, hk⟩ := og_b hk
    refine mj_cV (S := []) (S1 := []) (tm_wrong hl hz7) d_Mo_readChunk_244 cw_Mo_wrong ml_Mo_185 im_Mo_wrong se_Mo_wrong rfl (mo_h hl) (by decide) rfl (Nat.le_of_ble_eq_true rfl) rfl rfl ?_
    cases hk
    exact mj_vret rfl d_Mo_readChunk_247 ⟨rfl, rfl⟩
noncomputable def j_readChunk_219 (x1 : Int32) (x2 : Int32) (x3 : Int32) (x7 : Int32) (s0 : Int32) (s1 : Int32) (s2 : Int32) (g : mo_G) : Option mo_G := (r_scatter s2 s1 s0 g).bind (fun z5 => j_readChunk_222 x1 x2 x3 x7 z5)
set_option maxRecDepth 100000 in
set_option maxHeartbeats 4000000 in
theorem tj_readChunk_219 {h : mj_H} {r : mo_G} (hl : 39 < h.length) {x1 : Int32} {x2 : Int32} {x3 : Int32} {x7 : Int32} {s0 : Int32} {s1 : Int32} {s2 : Int32} {g : mo_G} (hk : j_readChunk_219 x1 x2 x3 x7 s0 s1 s2 g = some r) : mj_W M_Mo_readChunk (mj_q none (mo_up h r)) (3, 85, none) 0 0 219 [some (.ref 27), some (.int x1), some (.int x2), some (.int x3), none, none, none, some (.int x7), none] [.int s0, .int s1, .int s2, .ref 27] (mo_up h g) := by
  unfold j_readChunk_219 at hk
  obtain ⟨z5, hz5, hk⟩ := og_b hk
  refine mj_cV (S := []) (S1 := []) (tm_scatter hl hz5) d_Mo_readChunk_219 cw_Mo_scatter ml_Mo_224 im_Mo_scatter se_Mo_scatter rfl (mo_h hl) (by decide) rfl (Nat.le_of_ble_eq_true rfl) rfl rfl ?_
  exact tj_readChunk_222 hl hk
noncomputable def l_readChunk_128 (K : Int32 → Int32 → Int32 → Int32 → mo_G → Option mo_G) : Nat → Int32 → Int32 → Int32 → Int32 → Int32 → Int32 → mo_G → Option mo_G
  | 0, _, _, _, _, _, _, _ => none
  | n + 1, x1, x2, x3, x4, x7, x8, g => if x4 ≤ x8 then (K x1 x2 x3 x7 g) else (og (vp_in (((g.1 8) + x8) : Int32) 1500) (og (vp_in (x8 : Int32) 800) ((fun x1 x2 x3 x4 x7 x8 g => l_readChunk_128 K n x1 x2 x3 x4 x7 x8 g) x1 x2 x3 x4 x7 (x8 + 1) (g.1, mo_uA g.2 9 (upd (g.2 9) (x8 : Int32).toNatClampNeg (((g.2 4) (((g.1 8) + x8) : Int32).toNatClampNeg)))))))
set_option maxRecDepth 100000 in
set_option maxHeartbeats 4000000 in
theorem tl_readChunk_128 {h : mj_H} {r : mo_G} (hl : 39 < h.length) {K : Int32 → Int32 → Int32 → Int32 → mo_G → Option mo_G} (hK : (∀ (x1 : Int32) (x2 : Int32) (x3 : Int32) (x7 : Int32) (g : mo_G), K x1 x2 x3 x7 g = some r → mj_W M_Mo_readChunk (mj_q none (mo_up h r)) (3, 85, none) 0 0 160 [some (.ref 27), some (.int x1), some (.int x2), some (.int x3), none, none, none, some (.int x7), none] [] (mo_up h g))) : ∀ (n : Nat) (x1 : Int32) (x2 : Int32) (x3 : Int32) (x4 : Int32) (x7 : Int32) (x8 : Int32) (g : mo_G), l_readChunk_128 K n x1 x2 x3 x4 x7 x8 g = some r → mj_W M_Mo_readChunk (mj_q none (mo_up h r)) (3, 85, none) 0 0 128 [some (.ref 27), some (.int x1), some (.int x2), some (.int x3), some (.int x4), none, none, some (.int x7), some (.int x8)] [] (mo_up h g) := by
  intro n
  induction n with
  | zero =>
    intro x1 x2 x3 x4 x7 x8 g hk
    cases hk
  | succ n hbk =>
    intro x1 x2 x3 x4 x7 x8 g hk
    rw [l_readChunk_128] at hk
    refine mj_iload d_Mo_readChunk_128 rfl ?_
    refine mj_iload d_Mo_readChunk_130 rfl ?_
    refine mj_icmp_ge (tgt := 160) d_Mo_readChunk_132 (by decide) (fun c_132 => ?_) (fun c_132 => ?_)
    · replace hk := og_pos c_132 hk
      refine mj_fg 4 (L' := [some (.ref 27), some (.int x1), some (.int x2), some (.int x3), none, none, none, some (.int x7), some (.int x8)]) rfl ?_
      refine mj_fg 8 (L' := [some (.ref 27), some (.int x1), some (.int x2), some (.int x3), none, none, none, some (.int x7), none]) rfl ?_
      exact hK _ _ _ _ _ hk
    · replace hk := og_neg c_132 hk
      refine mj_aload_n d_Mo_readChunk_135 rfl ?_
      refine mj_get ok_Mo (k := 15) (v := .ref 37) (by decide) fl_Mo_50 d_Mo_readChunk_136 (mo_h hl) rfl ?_
      refine mj_iload d_Mo_readChunk_139 rfl ?_
      refine mj_aload_n d_Mo_readChunk_141 rfl ?_
      refine mj_get ok_Mo (k := 10) (v := .ref 32) (by decide) fl_Mo_35 d_Mo_readChunk_142 (mo_h hl) rfl ?_
      refine mj_aload_n d_Mo_readChunk_145 rfl ?_
      refine mj_get ok_Mo (k := 20) (v := .int (g.1 8)) (by decide) fl_Mo_182 d_Mo_readChunk_146 (mo_h hl) rfl ?_
      refine mj_iload d_Mo_readChunk_149 rfl ?_
      refine mj_iadd d_Mo_readChunk_151 ?_
      have q9 := og_1 hk
      replace hk := og_2 hk
      refine mj_iald (f := (g.2 4)) d_Mo_readChunk_152 (mo_a4 hl) q9 ?_
      have q10 := og_1 hk
      replace hk := og_2 hk
      refine mj_iast (f := (g.2 9)) d_Mo_readChunk_153 (mo_a9 hl) q10 ?_
      refine mj_hp (h1 := mo_up h (g.1, mo_uA g.2 9 (upd (g.2 9) (x8 : Int32).toNatClampNeg (((g.2 4) (((g.1 8) + x8) : Int32).toNatClampNeg))))) (mo_b9 (g := g) hl (upd (g.2 9) (x8 : Int32).toNatClampNeg (((g.2 4) (((g.1 8) + x8) : Int32).toNatClampNeg)))) ?_
      refine mj_iinc (x := x8) (v := x8 + 1) (L' := [some (.ref 27), some (.int x1), some (.int x2), some (.int x3), some (.int x4), none, none, some (.int x7), some (.int (x8 + 1))]) d_Mo_readChunk_154 rfl rfl (by decide) rfl rfl ?_
      refine mj_goto (tgt := 128) d_Mo_readChunk_157 (by decide) ?_
      exact hbk _ _ _ _ _ _ _ hk
noncomputable def j_readChunk_101 (x1 : Int32) (x2 : Int32) (x3 : Int32) (x4 : Int32) (x6 : Int32) (g : mo_G) : Option mo_G := if (g.1 9) ≤ 0 then (if x6 = x4 then (l_readChunk_128 (fun y12 y13 y14 y15 g11 => (r_scatter y12 y13 0 g11).bind (fun z16 => j_readChunk_222 y12 y13 y14 y15 z16)) 2000 x1 x2 x3 x4 (((g.1 8) + x6)) 0 g) else ((r_unpack (((g.1 8) + x6)) x4 g).bind (fun z4 => if (z4.1 9) ≤ 0 then (if (z4.1 13) = 3 then ((r_unwaves x1 x2 z4).bind (fun z8 => j_readChunk_222 x1 x2 x3 (((g.1 8) + x6)) z8)) else (if (z4.1 13) = 2 then (j_readChunk_219 x1 x2 x3 (((g.1 8) + x6)) 1 x2 x1 z4) else (j_readChunk_219 x1 x2 x3 (((g.1 8) + x6)) 0 x2 x1 z4))) else (some z4)))) else (some g)
set_option maxRecDepth 100000 in
set_option maxHeartbeats 4000000 in
theorem tj_readChunk_101 {h : mj_H} {r : mo_G} (hl : 39 < h.length) {x1 : Int32} {x2 : Int32} {x3 : Int32} {x4 : Int32} {x6 : Int32} {g : mo_G} (hk : j_readChunk_101 x1 x2 x3 x4 x6 g = some r) : mj_W M_Mo_readChunk (mj_q none (mo_up h r)) (3, 85, none) 0 0 101 [some (.ref 27), some (.int x1), some (.int x2), some (.int x3), some (.int x4), none, some (.int x6), none, none] [] (mo_up h g) := by
  unfold j_readChunk_101 at hk
  refine mj_aload_n d_Mo_readChunk_101 rfl ?_
  refine mj_get ok_Mo (k := 21) (v := .int (g.1 9)) (by decide) fl_Mo_179 d_Mo_readChunk_102 (mo_h hl) rfl ?_
  refine mj_if_le (tgt := 109) d_Mo_readChunk_105 (by decide) (fun c_105 => ?_) (fun c_105 => ?_)
  · replace hk := og_pos c_105 hk
    refine mj_aload_n d_Mo_readChunk_109 rfl ?_
    refine mj_get ok_Mo (k := 20) (v := .int (g.1 8)) (by decide) fl_Mo_182 d_Mo_readChunk_110 (mo_h hl) rfl ?_
    refine mj_iload d_Mo_readChunk_113 rfl ?_
    refine mj_iadd d_Mo_readChunk_115 ?_
    refine mj_istore (L' := [some (.ref 27), some (.int x1), some (.int x2), some (.int x3), some (.int x4), none, some (.int x6), some (.int ((g.1 8) + x6)), none]) d_Mo_readChunk_116 (by decide) rfl rfl ?_
    refine mj_iload d_Mo_readChunk_118 rfl ?_
    refine mj_iload d_Mo_readChunk_120 rfl ?_
    refine mj_icmp_ne (tgt := 170) d_Mo_readChunk_122 (by decide) (fun c_122 => ?_) (fun c_122 => ?_)
    · replace hk := og_neg c_122 hk
      refine mj_aload_n d_Mo_readChunk_170 rfl ?_
      refine mj_iload d_Mo_readChunk_171 rfl ?_
      refine mj_iload d_Mo_readChunk_173 rfl ?_
      obtain ⟨z4, hz4, hk⟩ := og_b hk
      refine mj_cV (S := []) (S1 := []) (tm_unpack hl hz4) d_Mo_readChunk_175 cw_Mo_unpack ml_Mo_228 im_Mo_unpack se_Mo_unpack rfl (mo_h hl) (by decide) rfl (Nat.le_of_ble_eq_true rfl) rfl rfl ?_
      refine mj_aload_n d_Mo_readChunk_178 rfl ?_
      refine mj_get ok_Mo (k := 21) (v := .int (z4.1 9)) (by decide) fl_Mo_179 d_Mo_readChunk_179 (mo_h hl) rfl ?_
      refine mj_if_le (tgt := 186) d_Mo_readChunk_182 (by decide) (fun c_182 => ?_) (fun c_182 => ?_)
      · replace hk := og_pos c_182 hk
        refine mj_aload_n d_Mo_readChunk_186 rfl ?_
        refine mj_get ok_Mo (k := 25) (v := .int (z4.1 13)) (by decide) fl_Mo_197 d_Mo_readChunk_187 (mo_h hl) rfl ?_
        refine mj_iconst (v := 3) d_Mo_readChunk_190 (by decide) ?_
        refine mj_icmp_ne (tgt := 203) d_Mo_readChunk_191 (by decide) (fun c_191 => ?_) (fun c_191 => ?_)
        · replace hk := og_neg c_191 hk
          refine mj_aload_n d_Mo_readChunk_203 rfl ?_
          refine mj_iload_n d_Mo_readChunk_204 rfl ?_
          refine mj_iload_n d_Mo_readChunk_205 rfl ?_
          refine mj_aload_n d_Mo_readChunk_206 rfl ?_
          refine mj_get ok_Mo (k := 25) (v := .int (z4.1 13)) (by decide) fl_Mo_197 d_Mo_readChunk_207 (mo_h hl) rfl ?_
          refine mj_iconst (v := 2) d_Mo_readChunk_210 (by decide) ?_
          refine mj_icmp_ne (tgt := 218) d_Mo_readChunk_211 (by decide) (fun c_211 => ?_) (fun c_211 => ?_)
          · replace hk := og_neg c_211 hk
            refine mj_iconst (v := 0) d_Mo_readChunk_218 (by decide) ?_
            refine mj_fg 4 (L' := [some (.ref 27), some (.int x1), some (.int x2), some (.int x3), none, none, some (.int x6), some (.int ((g.1 8) + x6)), none]) rfl ?_
            refine mj_fg 6 (L' := [some (.ref 27), some (.int x1), some (.int x2), some (.int x3), none, none, none, some (.int ((g.1 8) + x6)), none]) rfl ?_
            exact tj_readChunk_219 hl hk
          · replace hk := og_pos c_211 hk
            refine mj_iconst (v := 1) d_Mo_readChunk_214 (by decide) ?_
            refine mj_goto (tgt := 219) d_Mo_readChunk_215 (by decide) ?_
            refine mj_fg 4 (L' := [some (.ref 27), some (.int x1), some (.int x2), some (.int x3), none, none, some (.int x6), some (.int ((g.1 8) + x6)), none]) rfl ?_
            refine mj_fg 6 (L' := [some (.ref 27), some (.int x1), some (.int x2), some (.int x3), none, none, none, some (.int ((g.1 8) + x6)), none]) rfl ?_
            exact tj_readChunk_219 hl hk
        · replace hk := og_pos c_191 hk
          refine mj_aload_n d_Mo_readChunk_194 rfl ?_
          refine mj_iload_n d_Mo_readChunk_195 rfl ?_
          refine mj_iload_n d_Mo_readChunk_196 rfl ?_
          obtain ⟨z8, hz8, hk⟩ := og_b hk
          refine mj_cV (S := []) (S1 := []) (tm_unwaves hl hz8) d_Mo_readChunk_197 cw_Mo_unwaves ml_Mo_231 im_Mo_unwaves se_Mo_unwaves rfl (mo_h hl) (by decide) rfl (Nat.le_of_ble_eq_true rfl) rfl rfl ?_
          refine mj_goto (tgt := 222) d_Mo_readChunk_200 (by decide) ?_
          refine mj_fg 4 (L' := [some (.ref 27), some (.int x1), some (.int x2), some (.int x3), none, none, some (.int x6), some (.int ((g.1 8) + x6)), none]) rfl ?_
          refine mj_fg 6 (L' := [some (.ref 27), some (.int x1), some (.int x2), some (.int x3), none, none, none, some (.int ((g.1 8) + x6)), none]) rfl ?_
          exact tj_readChunk_222 hl hk
      · replace hk := og_neg c_182 hk
        cases hk
        exact mj_vret rfl d_Mo_readChunk_185 ⟨rfl, rfl⟩
    · replace hk := og_pos c_122 hk
      refine mj_iconst (v := 0) d_Mo_readChunk_125 (by decide) ?_
      refine mj_istore (L' := [some (.ref 27), some (.int x1), some (.int x2), some (.int x3), some (.int x4), none, some (.int x6), some (.int ((g.1 8) + x6)), some (.int 0)]) d_Mo_readChunk_126 (by decide) rfl rfl ?_
      refine mj_fg 6 (L' := [some (.ref 27), some (.int x1), some (.int x2), some (.int x3), some (.int x4), none, none, some (.int ((g.1 8) + x6)), some (.int 0)]) rfl ?_
      refine tl_readChunk_128 hl ?_ 2000 _ _ _ _ _ _ _ hk
      intro y12 y13 y14 y15 g11 hk
      refine mj_aload_n d_Mo_readChunk_160 rfl ?_
      refine mj_iload_n d_Mo_readChunk_161 rfl ?_
      refine mj_iload_n d_Mo_readChunk_162 rfl ?_
      refine mj_iconst (v := 0) d_Mo_readChunk_163 (by decide) ?_
      obtain ⟨z16, hz16, hk⟩ := og_b hk
      refine mj_cV (S := []) (S1 := []) (tm_scatter hl hz16) d_Mo_readChunk_164 cw_Mo_scatter ml_Mo_224 im_Mo_scatter se_Mo_scatter rfl (mo_h hl) (by decide) rfl (Nat.le_of_ble_eq_true rfl) rfl rfl ?_
      refine mj_goto (tgt := 222) d_Mo_readChunk_167 (by decide) ?_
      exact tj_readChunk_222 hl hk
  · replace hk := og_neg c_105 hk
    cases hk
    exact mj_vret rfl d_Mo_readChunk_108 ⟨rfl, rfl⟩
noncomputable def j_readChunk_71 (x1 : Int32) (x2 : Int32) (x3 : Int32) (x4 : Int32) (x6 : Int32) (g : mo_G) : Option mo_G := if (g.1 9) = 0 then (if (((g.1 8) + x6)) ≤ (g.1 3) then (j_readChunk_101 x1 x2 x3 x4 x6 g) else ((r_wrong (g.1 3) 1 g).bind (fun z17 => j_readChunk_101 x1 x2 x3 x4 x6 z17))) else (j_readChunk_101 x1 x2 x3 x4 x6 g)
set_option maxRecDepth 100000 in
set_option maxHeartbeats 4000000 in
theorem tj_readChunk_71 {h : mj_H} {r : mo_G} (hl : 39 < h.length) {x1 : Int32} {x2 : Int32} {x3 : Int32} {x4 : Int32} {x6 : Int32} {g : mo_G} (hk : j_readChunk_71 x1 x2 x3 x4 x6 g = some r) : mj_W M_Mo_readChunk (mj_q none (mo_up h r)) (3, 85, none) 0 0 71 [some (.ref 27), some (.int x1), some (.int x2), some (.int x3), some (.int x4), none, some (.int x6), none, none] [] (mo_up h g) := by
  unfold j_readChunk_71 at hk
  refine mj_aload_n d_Mo_readChunk_71 rfl ?_
  refine mj_get ok_Mo (k := 21) (v := .int (g.1 9)) (by decide) fl_Mo_179 d_Mo_readChunk_72 (mo_h hl) rfl ?_
  refine mj_if_ne (tgt := 101) d_Mo_readChunk_75 (by decide) (fun c_75 => ?_) (fun c_75 => ?_)
  · replace hk := og_neg c_75 hk
    exact tj_readChunk_101 hl hk
  · replace hk := og_pos c_75 hk
    refine mj_aload_n d_Mo_readChunk_78 rfl ?_
    refine mj_get ok_Mo (k := 20) (v := .int (g.1 8)) (by decide) fl_Mo_182 d_Mo_readChunk_79 (mo_h hl) rfl ?_
    refine mj_iload d_Mo_readChunk_82 rfl ?_
    refine mj_iadd d_Mo_readChunk_84 ?_
    refine mj_aload_n d_Mo_readChunk_85 rfl ?_
    refine mj_get ok_Mo (k := 3) (v := .int (g.1 3)) (by decide) fl_Mo_158 d_Mo_readChunk_86 (mo_h hl) rfl ?_
    refine mj_icmp_le (tgt := 101) d_Mo_readChunk_89 (by decide) (fun c_89 => ?_) (fun c_89 => ?_)
    · replace hk := og_pos c_89 hk
      exact tj_readChunk_101 hl hk
    · replace hk := og_neg c_89 hk
      refine mj_aload_n d_Mo_readChunk_92 rfl ?_
      refine mj_aload_n d_Mo_readChunk_93 rfl ?_
      refine mj_get ok_Mo (k := 3) (v := .int (g.1 3)) (by decide) fl_Mo_158 d_Mo_readChunk_94 (mo_h hl) rfl ?_
      refine mj_iconst (v := 1) d_Mo_readChunk_97 (by decide) ?_
      obtain ⟨z17, hz17, hk⟩ := og_b hk
      refine mj_cV (S := []) (S1 := []) (tm_wrong hl hz17) d_Mo_readChunk_98 cw_Mo_wrong ml_Mo_185 im_Mo_wrong se_Mo_wrong rfl (mo_h hl) (by decide) rfl (Nat.le_of_ble_eq_true rfl) rfl rfl ?_
      exact tj_readChunk_101 hl hk
noncomputable def j_readChunk_64 (x1 : Int32) (x2 : Int32) (x3 : Int32) (x4 : Int32) (x5 : Int32) (x6 : Int32) (g : mo_G) : Option mo_G := (r_wrong x5 1 g).bind (fun z18 => j_readChunk_71 x1 x2 x3 x4 x6 z18)
set_option maxRecDepth 100000 in
set_option maxHeartbeats 4000000 in
theorem tj_readChunk_64 {h : mj_H} {r : mo_G} (hl : 39 < h.length) {x1 : Int32} {x2 : Int32} {x3 : Int32} {x4 : Int32} {x5 : Int32} {x6 : Int32} {g : mo_G} (hk : j_readChunk_64 x1 x2 x3 x4 x5 x6 g = some r) : mj_W M_Mo_readChunk (mj_q none (mo_up h r)) (3, 85, none) 0 0 64 [some (.ref 27), some (.int x1), some (.int x2), some (.int x3), some (.int x4), some (.int x5), some (.int x6), none, none] [] (mo_up h g) := by
  unfold j_readChunk_64 at hk
  refine mj_aload_n d_Mo_readChunk_64 rfl ?_
  refine mj_iload d_Mo_readChunk_65 rfl ?_
  refine mj_iconst (v := 1) d_Mo_readChunk_67 (by decide) ?_
  obtain ⟨z18, hz18, hk⟩ := og_b hk
  refine mj_cV (S := []) (S1 := []) (tm_wrong hl hz18) d_Mo_readChunk_68 cw_Mo_wrong ml_Mo_185 im_Mo_wrong se_Mo_wrong rfl (mo_h hl) (by decide) rfl (Nat.le_of_ble_eq_true rfl) rfl rfl ?_
  refine mj_fg 5 (L' := [some (.ref 27), some (.int x1), some (.int x2), some (.int x3), some (.int x4), none, some (.int x6), none, none]) rfl ?_
  exact tj_readChunk_71 hl hk
noncomputable def r_readChunk (x1 : Int32) (x2 : Int32) (g : mo_G) : Option mo_G := (r_wanted x1 x2 g).bind (fun z1 => (r_next x1 x1 1 z1.2).bind (fun z2 => (r_two  z2.2).bind (fun z3 => if (z3.2.1 9) = 0 then (if (z3.2.1 13) = 0 then (if z3.1 = z1.1 then (j_readChunk_71 x1 x2 (g.1 8) z1.1 z3.1 z3.2) else (j_readChunk_64 x1 x2 (g.1 8) z1.1 (z2.2.1 8) z3.1 z3.2)) else (if z3.1 ≤ z1.1 then (j_readChunk_71 x1 x2 (g.1 8) z1.1 z3.1 z3.2) else (j_readChunk_64 x1 x2 (g.1 8) z1.1 (z2.2.1 8) z3.1 z3.2))) else (j_readChunk_71 x1 x2 (g.1 8) z1.1 z3.1 z3.2))))
set_option maxRecDepth 100000 in
set_option maxHeartbeats 4000000 in
theorem tm_readChunk {h : mj_H} {r : mo_G} (hl : 39 < h.length) {x1 : Int32} {x2 : Int32} {g : mo_G} (hk : r_readChunk x1 x2 g = some r) : mj_Met M_Mo_readChunk (3, 85, none) 0 0 [.ref 27, .int x1, .int x2] (mo_up h g) (mj_q none (mo_up h r)) := by
  unfold r_readChunk at hk
  refine mj_enter (r := 6) rfl rfl (by decide) rfl ?_
  show mj_W M_Mo_readChunk _ _ _ _ 0 [some (.ref 27), some (.int x1), some (.int x2), none, none, none, none, none, none] [] (mo_up h g)
  refine mj_aload_n d_Mo_readChunk_0 rfl ?_
  refine mj_get ok_Mo (k := 20) (v := .int (g.1 8)) (by decide) fl_Mo_182 d_Mo_readChunk_1 (mo_h hl) rfl ?_
  refine mj_istore_n (L' := [some (.ref 27), some (.int x1), some (.int x2), some (.int (g.1 8)), none, none, none, none, none]) d_Mo_readChunk_4 (by decide) rfl rfl ?_
  refine mj_aload_n d_Mo_readChunk_5 rfl ?_
  refine mj_iload_n d_Mo_readChunk_6 rfl ?_
  refine mj_iload_n d_Mo_readChunk_7 rfl ?_
  obtain ⟨z1, hz1, hk⟩ := og_b hk
  refine mj_cV (S := []) (S1 := [.int z1.1]) (tm_wanted hl hz1) d_Mo_readChunk_8 cw_Mo_wanted ml_Mo_221 im_Mo_wanted se_Mo_wanted rfl (mo_h hl) (by decide) rfl (Nat.le_of_ble_eq_true rfl) rfl rfl ?_
  refine mj_istore (L' := [some (.ref 27), some (.int x1), some (.int x2), some (.int (g.1 8)), some (.int z1.1), none, none, none, none]) d_Mo_readChunk_11 (by decide) rfl rfl ?_
  refine mj_aload_n d_Mo_readChunk_13 rfl ?_
  refine mj_iload_n d_Mo_readChunk_14 rfl ?_
  refine mj_iload_n d_Mo_readChunk_15 rfl ?_
  refine mj_iconst (v := 1) d_Mo_readChunk_16 (by decide) ?_
  obtain ⟨z2, hz2, hk⟩ := og_b hk
  refine mj_cV (S := []) (S1 := [.int z2.1]) (tm_next hl hz2) d_Mo_readChunk_17 cw_Mo_next ml_Mo_188 im_Mo_next se_Mo_next rfl (mo_h hl) (by decide) rfl (Nat.le_of_ble_eq_true rfl) rfl rfl ?_
  refine mj_pop d_Mo_readChunk_20 rfl ?_
  refine mj_aload_n d_Mo_readChunk_21 rfl ?_
  refine mj_get ok_Mo (k := 20) (v := .int (z2.2.1 8)) (by decide) fl_Mo_182 d_Mo_readChunk_22 (mo_h hl) rfl ?_
  refine mj_istore (L' := [some (.ref 27), some (.int x1), some (.int x2), some (.int (g.1 8)), some (.int z1.1), some (.int (z2.2.1 8)), none, none, none]) d_Mo_readChunk_25 (by decide) rfl rfl ?_
  refine mj_aload_n d_Mo_readChunk_27 rfl ?_
  obtain ⟨z3, hz3, hk⟩ := og_b hk
  refine mj_cV (S := []) (S1 := [.int z3.1]) (tm_two hl hz3) d_Mo_readChunk_28 cw_Mo_two ml_Mo_203 im_Mo_two se_Mo_two rfl (mo_h hl) (by decide) rfl (Nat.le_of_ble_eq_true rfl) rfl rfl ?_
  refine mj_istore (L' := [some (.ref 27), some (.int x1), some (.int x2), some (.int (g.1 8)), some (.int z1.1), some (.int (z2.2.1 8)), some (.int z3.1), none, none]) d_Mo_readChunk_31 (by decide) rfl rfl ?_
  refine mj_aload_n d_Mo_readChunk_33 rfl ?_
  refine mj_get ok_Mo (k := 21) (v := .int (z3.2.1 9)) (by decide) fl_Mo_179 d_Mo_readChunk_34 (mo_h hl) rfl ?_
  refine mj_if_ne (tgt := 71) d_Mo_readChunk_37 (by decide) (fun c_37 => ?_) (fun c_37 => ?_)
  · replace hk := og_neg c_37 hk
    refine mj_fg 5 (L' := [some (.ref 27), some (.int x1), some (.int x2), some (.int (g.1 8)), some (.int z1.1), none, some (.int z3.1), none, none]) rfl ?_
    exact tj_readChunk_71 hl hk
  · replace hk := og_pos c_37 hk
    refine mj_aload_n d_Mo_readChunk_40 rfl ?_
    refine mj_get ok_Mo (k := 25) (v := .int (z3.2.1 13)) (by decide) fl_Mo_197 d_Mo_readChunk_41 (mo_h hl) rfl ?_
    refine mj_if_ne (tgt := 57) d_Mo_readChunk_44 (by decide) (fun c_44 => ?_) (fun c_44 => ?_)
    · replace hk := og_neg c_44 hk
      refine mj_iload d_Mo_readChunk_57 rfl ?_
      refine mj_iload d_Mo_readChunk_59 rfl ?_
      refine mj_icmp_le (tgt := 71) d_Mo_readChunk_61 (by decide) (fun c_61 => ?_) (fun c_61 => ?_)
      · replace hk := og_pos c_61 hk
        refine mj_fg 5 (L' := [some (.ref 27), some (.int x1), some (.int x2), some (.int (g.1 8)), some (.int z1.1), none, some (.int z3.1), none, none]) rfl ?_
        exact tj_readChunk_71 hl hk
      · replace hk := og_neg c_61 hk
        exact tj_readChunk_64 hl hk
    · replace hk := og_pos c_44 hk
      refine mj_iload d_Mo_readChunk_47 rfl ?_
      refine mj_iload d_Mo_readChunk_49 rfl ?_
      refine mj_icmp_eq (tgt := 71) d_Mo_readChunk_51 (by decide) (fun c_51 => ?_) (fun c_51 => ?_)
      · replace hk := og_pos c_51 hk
        refine mj_fg 5 (L' := [some (.ref 27), some (.int x1), some (.int x2), some (.int (g.1 8)), some (.int z1.1), none, some (.int z3.1), none, none]) rfl ?_
        exact tj_readChunk_71 hl hk
      · replace hk := og_neg c_51 hk
        refine mj_goto (tgt := 64) d_Mo_readChunk_54 (by decide) ?_
        exact tj_readChunk_64 hl hk
noncomputable def l_decode_13 (K : mo_G → Option (Prod Int32 mo_G)) : Nat → Int32 → mo_G → Option (Prod Int32 mo_G)
  | 0, _, _ => none
  | n + 1, x1, g => if 192 ≤ x1 then (K g) else (og (vp_in (x1 : Int32) 192) ((fun x1 g => l_decode_13 K n x1 g) (x1 + 1) (g.1, mo_uA g.2 8 (upd (g.2 8) (x1 : Int32).toNatClampNeg 0))))
set_option maxRecDepth 100000 in
set_option maxHeartbeats 4000000 in
theorem tl_decode_13 {h : mj_H} {r : (Prod Int32 mo_G)} (hl : 39 < h.length) {K : mo_G → Option (Prod Int32 mo_G)} (hK : (∀ (g : mo_G), K g = some r → mj_W M_Mo_decode (mj_q (some (.int r.1)) (mo_up h r.2)) (4, 113, none) 0 0 33 [some (.ref 27), none, none] [] (mo_up h g))) : ∀ (n : Nat) (x1 : Int32) (g : mo_G), l_decode_13 K n x1 g = some r → mj_W M_Mo_decode (mj_q (some (.int r.1)) (mo_up h r.2)) (4, 113, none) 0 0 13 [some (.ref 27), some (.int x1), none] [] (mo_up h g) := by
  intro n
  induction n with
  | zero =>
    intro x1 g hk
    cases hk
  | succ n hbk =>
    intro x1 g hk
    rw [l_decode_13] at hk
    refine mj_iload_n d_Mo_decode_13 rfl ?_
    refine mj_sipush (v := 192) d_Mo_decode_14 (by decide) ?_
    refine mj_icmp_ge (tgt := 33) d_Mo_decode_17 (by decide) (fun c_17 => ?_) (fun c_17 => ?_)
    · replace hk := og_pos c_17 hk
      refine mj_fg 1 (L' := [some (.ref 27), none, none]) rfl ?_
      exact hK _ hk
    · replace hk := og_neg c_17 hk
      refine mj_aload_n d_Mo_decode_20 rfl ?_
      refine mj_get ok_Mo (k := 14) (v := .ref 36) (by decide) fl_Mo_47 d_Mo_decode_21 (mo_h hl) rfl ?_
      refine mj_iload_n d_Mo_decode_24 rfl ?_
      refine mj_iconst (v := 0) d_Mo_decode_25 (by decide) ?_
      have q1 := og_1 hk
      replace hk := og_2 hk
      refine mj_iast (f := (g.2 8)) d_Mo_decode_26 (mo_a8 hl) q1 ?_
      refine mj_hp (h1 := mo_up h (g.1, mo_uA g.2 8 (upd (g.2 8) (x1 : Int32).toNatClampNeg 0))) (mo_b8 (g := g) hl (upd (g.2 8) (x1 : Int32).toNatClampNeg 0)) ?_
      refine mj_iinc (x := x1) (v := x1 + 1) (L' := [some (.ref 27), some (.int (x1 + 1)), none]) d_Mo_decode_27 rfl rfl (by decide) rfl rfl ?_
      refine mj_goto (tgt := 13) d_Mo_decode_30 (by decide) ?_
      exact hbk _ _ hk
noncomputable def l_decode_68 (K : mo_G → Option (Prod Int32 mo_G)) : Nat → Int32 → Int32 → mo_G → Option (Prod Int32 mo_G)
  | 0, _, _, _ => none
  | n + 1, x1, x2, g => if (g.1 11) ≤ x2 then (K g) else (if (g.1 9) = 0 then ((r_least x1 (((g.1 11) - x2))).bind (fun z5 => (r_readChunk x2 z5 g).bind (fun z6 => (fun x1 x2 g => l_decode_68 K n x1 x2 g) x1 (x2 + x1) z6))) else (K g))
set_option maxRecDepth 100000 in
set_option maxHeartbeats 4000000 in
theorem tl_decode_68 {h : mj_H} {r : (Prod Int32 mo_G)} (hl : 39 < h.length) {K : mo_G → Option (Prod Int32 mo_G)} (hK : (∀ (g : mo_G), K g = some r → mj_W M_Mo_decode (mj_q (some (.int r.1)) (mo_up h r.2)) (4, 113, none) 0 0 105 [some (.ref 27), none, none] [] (mo_up h g))) : ∀ (n : Nat) (x1 : Int32) (x2 : Int32) (g : mo_G), l_decode_68 K n x1 x2 g = some r → mj_W M_Mo_decode (mj_q (some (.int r.1)) (mo_up h r.2)) (4, 113, none) 0 0 68 [some (.ref 27), some (.int x1), some (.int x2)] [] (mo_up h g) := by
  intro n
  induction n with
  | zero =>
    intro x1 x2 g hk
    cases hk
  | succ n hbk =>
    intro x1 x2 g hk
    rw [l_decode_68] at hk
    refine mj_iload_n d_Mo_decode_68 rfl ?_
    refine mj_aload_n d_Mo_decode_69 rfl ?_
    refine mj_get ok_Mo (k := 23) (v := .int (g.1 11)) (by decide) fl_Mo_194 d_Mo_decode_70 (mo_h hl) rfl ?_
    refine mj_icmp_ge (tgt := 105) d_Mo_decode_73 (by decide) (fun c_73 => ?_) (fun c_73 => ?_)
    · replace hk := og_pos c_73 hk
      refine mj_fg 1 (L' := [some (.ref 27), none, some (.int x2)]) rfl ?_
      refine mj_fg 2 (L' := [some (.ref 27), none, none]) rfl ?_
      exact hK _ hk
    · replace hk := og_neg c_73 hk
      refine mj_aload_n d_Mo_decode_76 rfl ?_
      refine mj_get ok_Mo (k := 21) (v := .int (g.1 9)) (by decide) fl_Mo_179 d_Mo_decode_77 (mo_h hl) rfl ?_
      refine mj_if_ne (tgt := 105) d_Mo_decode_80 (by decide) (fun c_80 => ?_) (fun c_80 => ?_)
      · replace hk := og_neg c_80 hk
        refine mj_fg 1 (L' := [some (.ref 27), none, some (.int x2)]) rfl ?_
        refine mj_fg 2 (L' := [some (.ref 27), none, none]) rfl ?_
        exact hK _ hk
      · replace hk := og_pos c_80 hk
        refine mj_aload_n d_Mo_decode_83 rfl ?_
        refine mj_iload_n d_Mo_decode_84 rfl ?_
        refine mj_iload_n d_Mo_decode_85 rfl ?_
        refine mj_aload_n d_Mo_decode_86 rfl ?_
        refine mj_get ok_Mo (k := 23) (v := .int (g.1 11)) (by decide) fl_Mo_194 d_Mo_decode_87 (mo_h hl) rfl ?_
        refine mj_iload_n d_Mo_decode_90 rfl ?_
        refine mj_isub d_Mo_decode_91 ?_
        obtain ⟨z5, hz5, hk⟩ := og_b hk
        refine mj_cS (S := [.int x2, .ref 27]) (S1 := [.int z5, .int x2, .ref 27]) (tm_least hz5) d_Mo_decode_92 cw_Mo_least ml_Mo_139 st_Mo_least (by decide) rfl (Nat.le_of_ble_eq_true rfl) rfl rfl ?_
        obtain ⟨z6, hz6, hk⟩ := og_b hk
        refine mj_cV (S := []) (S1 := []) (tm_readChunk hl hz6) d_Mo_decode_95 cw_Mo_readChunk ml_Mo_243 im_Mo_readChunk se_Mo_readChunk rfl (mo_h hl) (by decide) rfl (Nat.le_of_ble_eq_true rfl) rfl rfl ?_
        refine mj_iload_n d_Mo_decode_98 rfl ?_
        refine mj_iload_n d_Mo_decode_99 rfl ?_
        refine mj_iadd d_Mo_decode_100 ?_
        refine mj_istore_n (L' := [some (.ref 27), some (.int x1), some (.int (x2 + x1))]) d_Mo_decode_101 (by decide) rfl rfl ?_
        refine mj_goto (tgt := 68) d_Mo_decode_102 (by decide) ?_
        exact hbk _ _ _ hk
noncomputable def l_decode_175 (K : mo_G → Option (Prod Int32 mo_G)) : Nat → Int32 → mo_G → Option (Prod Int32 mo_G)
  | 0, _, _ => none
  | n + 1, x2, g => if (g.1 12) ≤ x2 then (K g) else (og (vp_in (x2 : Int32) 3) (og (vp_in (x2 : Int32) 3) (og (vp_in (x2 : Int32) 3) (og (vp_in (x2 : Int32) 3) (og (vp_in (x2 : Int32) 3) (og (vp_in (x2 : Int32) 3) ((fun x2 g => l_decode_175 K n x2 g) (x2 + 1) (g.1, mo_uA (mo_uA (mo_uA g.2 0 (upd (g.2 0) (x2 : Int32).toNatClampNeg (((g.2 5) (x2 : Int32).toNatClampNeg)))) 1 (upd (g.2 1) (x2 : Int32).toNatClampNeg (((g.2 6) (x2 : Int32).toNatClampNeg)))) 2 (upd (g.2 2) (x2 : Int32).toNatClampNeg (((g.2 7) (x2 : Int32).toNatClampNeg)))))))))))
set_option maxRecDepth 100000 in
set_option maxHeartbeats 4000000 in
theorem tl_decode_175 {h : mj_H} {r : (Prod Int32 mo_G)} (hl : 39 < h.length) {K : mo_G → Option (Prod Int32 mo_G)} (hK : (∀ (g : mo_G), K g = some r → mj_W M_Mo_decode (mj_q (some (.int r.1)) (mo_up h r.2)) (4, 113, none) 0 0 225 [some (.ref 27), none, none] [] (mo_up h g))) : ∀ (n : Nat) (x2 : Int32) (g : mo_G), l_decode_175 K n x2 g = some r → mj_W M_Mo_decode (mj_q (some (.int r.1)) (mo_up h r.2)) (4, 113, none) 0 0 175 [some (.ref 27), none, some (.int x2)] [] (mo_up h g) := by
  intro n
  induction n with
  | zero =>
    intro x2 g hk
    cases hk
  | succ n hbk =>
    intro x2 g hk
    rw [l_decode_175] at hk
    refine mj_iload_n d_Mo_decode_175 rfl ?_
    refine mj_aload_n d_Mo_decode_176 rfl ?_
    refine mj_get ok_Mo (k := 24) (v := .int (g.1 12)) (by decide) fl_Mo_200 d_Mo_decode_177 (mo_h hl) rfl ?_
    refine mj_icmp_ge (tgt := 225) d_Mo_decode_180 (by decide) (fun c_180 => ?_) (fun c_180 => ?_)
    · replace hk := og_pos c_180 hk
      refine mj_fg 2 (L' := [some (.ref 27), none, none]) rfl ?_
      exact hK _ hk
    · replace hk := og_neg c_180 hk
      refine mj_aload_n d_Mo_decode_183 rfl ?_
      refine mj_get ok_Mo (k := 6) (v := .ref 28) (by decide) fl_Mo_22 d_Mo_decode_184 (mo_h hl) rfl ?_
      refine mj_iload_n d_Mo_decode_187 rfl ?_
      refine mj_aload_n d_Mo_decode_188 rfl ?_
      refine mj_get ok_Mo (k := 11) (v := .ref 33) (by decide) fl_Mo_38 d_Mo_decode_189 (mo_h hl) rfl ?_
      refine mj_iload_n d_Mo_decode_192 rfl ?_
      have q8 := og_1 hk
      replace hk := og_2 hk
      refine mj_iald (f := (g.2 5)) d_Mo_decode_193 (mo_a5 hl) q8 ?_
      have q9 := og_1 hk
      replace hk := og_2 hk
      refine mj_iast (f := (g.2 0)) d_Mo_decode_194 (mo_a0 hl) q9 ?_
      refine mj_hp (h1 := mo_up h (g.1, mo_uA g.2 0 (upd (g.2 0) (x2 : Int32).toNatClampNeg (((g.2 5) (x2 : Int32).toNatClampNeg))))) (mo_b0 (g := g) hl (upd (g.2 0) (x2 : Int32).toNatClampNeg (((g.2 5) (x2 : Int32).toNatClampNeg)))) ?_
      refine mj_aload_n d_Mo_decode_195 rfl ?_
      refine mj_get ok_Mo (k := 7) (v := .ref 29) (by decide) fl_Mo_26 d_Mo_decode_196 (mo_h hl) rfl ?_
      refine mj_iload_n d_Mo_decode_199 rfl ?_
      refine mj_aload_n d_Mo_decode_200 rfl ?_
      refine mj_get ok_Mo (k := 12) (v := .ref 34) (by decide) fl_Mo_41 d_Mo_decode_201 (mo_h hl) rfl ?_
      refine mj_iload_n d_Mo_decode_204 rfl ?_
      have q10 := og_1 hk
      replace hk := og_2 hk
      refine mj_iald (f := (g.2 6)) d_Mo_decode_205 (mo_a6 hl) q10 ?_
      have q11 := og_1 hk
      replace hk := og_2 hk
      refine mj_iast (f := (g.2 1)) d_Mo_decode_206 (mo_a1 hl) q11 ?_
      refine mj_hp (h1 := mo_up h (g.1, mo_uA (mo_uA g.2 0 (upd (g.2 0) (x2 : Int32).toNatClampNeg (((g.2 5) (x2 : Int32).toNatClampNeg)))) 1 (upd (g.2 1) (x2 : Int32).toNatClampNeg (((g.2 6) (x2 : Int32).toNatClampNeg))))) (mo_b1 (g := (g.1, mo_uA g.2 0 (upd (g.2 0) (x2 : Int32).toNatClampNeg (((g.2 5) (x2 : Int32).toNatClampNeg))))) hl (upd (g.2 1) (x2 : Int32).toNatClampNeg (((g.2 6) (x2 : Int32).toNatClampNeg)))) ?_
      refine mj_aload_n d_Mo_decode_207 rfl ?_
      refine mj_get ok_Mo (k := 8) (v := .ref 30) (by decide) fl_Mo_29 d_Mo_decode_208 (mo_h hl) rfl ?_
      refine mj_iload_n d_Mo_decode_211 rfl ?_
      refine mj_aload_n d_Mo_decode_212 rfl ?_
      refine mj_get ok_Mo (k := 13) (v := .ref 35) (by decide) fl_Mo_44 d_Mo_decode_213 (mo_h hl) rfl ?_
      refine mj_iload_n d_Mo_decode_216 rfl ?_
      have q12 := og_1 hk
      replace hk := og_2 hk
      refine mj_iald (f := (g.2 7)) d_Mo_decode_217 (mo_a7 hl) q12 ?_
      have q13 := og_1 hk
      replace hk := og_2 hk
      refine mj_iast (f := (g.2 2)) d_Mo_decode_218 (mo_a2 hl) q13 ?_
      refine mj_hp (h1 := mo_up h (g.1, mo_uA (mo_uA (mo_uA g.2 0 (upd (g.2 0) (x2 : Int32).toNatClampNeg (((g.2 5) (x2 : Int32).toNatClampNeg)))) 1 (upd (g.2 1) (x2 : Int32).toNatClampNeg (((g.2 6) (x2 : Int32).toNatClampNeg)))) 2 (upd (g.2 2) (x2 : Int32).toNatClampNeg (((g.2 7) (x2 : Int32).toNatClampNeg))))) (mo_b2 (g := (g.1, mo_uA (mo_uA g.2 0 (upd (g.2 0) (x2 : Int32).toNatClampNeg (((g.2 5) (x2 : Int32).toNatClampNeg)))) 1 (upd (g.2 1) (x2 : Int32).toNatClampNeg (((g.2 6) (x2 : Int32).toNatClampNeg))))) hl (upd (g.2 2) (x2 : Int32).toNatClampNeg (((g.2 7) (x2 : Int32).toNatClampNeg)))) ?_
      refine mj_iinc (x := x2) (v := x2 + 1) (L' := [some (.ref 27), none, some (.int (x2 + 1))]) d_Mo_decode_219 rfl rfl (by decide) rfl rfl ?_
      refine mj_goto (tgt := 175) d_Mo_decode_222 (by decide) ?_
      exact hbk _ _ hk
noncomputable def l_decode_227 (K : mo_G → Option (Prod Int32 mo_G)) : Nat → Int32 → mo_G → Option (Prod Int32 mo_G)
  | 0, _, _ => none
  | n + 1, x2, g => if 192 ≤ x2 then (K g) else (og (vp_in (x2 : Int32) 192) (og (vp_in (x2 : Int32) 192) ((fun x2 g => l_decode_227 K n x2 g) (x2 + 1) (g.1, mo_uA g.2 3 (upd (g.2 3) (x2 : Int32).toNatClampNeg (((g.2 8) (x2 : Int32).toNatClampNeg)))))))
set_option maxRecDepth 100000 in
set_option maxHeartbeats 4000000 in
theorem tl_decode_227 {h : mj_H} {r : (Prod Int32 mo_G)} (hl : 39 < h.length) {K : mo_G → Option (Prod Int32 mo_G)} (hK : (∀ (g : mo_G), K g = some r → mj_W M_Mo_decode (mj_q (some (.int r.1)) (mo_up h r.2)) (4, 113, none) 0 0 252 [some (.ref 27), none, none] [] (mo_up h g))) : ∀ (n : Nat) (x2 : Int32) (g : mo_G), l_decode_227 K n x2 g = some r → mj_W M_Mo_decode (mj_q (some (.int r.1)) (mo_up h r.2)) (4, 113, none) 0 0 227 [some (.ref 27), none, some (.int x2)] [] (mo_up h g) := by
  intro n
  induction n with
  | zero =>
    intro x2 g hk
    cases hk
  | succ n hbk =>
    intro x2 g hk
    rw [l_decode_227] at hk
    refine mj_iload_n d_Mo_decode_227 rfl ?_
    refine mj_sipush (v := 192) d_Mo_decode_228 (by decide) ?_
    refine mj_icmp_ge (tgt := 252) d_Mo_decode_231 (by decide) (fun c_231 => ?_) (fun c_231 => ?_)
    · replace hk := og_pos c_231 hk
      refine mj_fg 2 (L' := [some (.ref 27), none, none]) rfl ?_
      exact hK _ hk
    · replace hk := og_neg c_231 hk
      refine mj_aload_n d_Mo_decode_234 rfl ?_
      refine mj_get ok_Mo (k := 9) (v := .ref 31) (by decide) fl_Mo_32 d_Mo_decode_235 (mo_h hl) rfl ?_
      refine mj_iload_n d_Mo_decode_238 rfl ?_
      refine mj_aload_n d_Mo_decode_239 rfl ?_
      refine mj_get ok_Mo (k := 14) (v := .ref 36) (by decide) fl_Mo_47 d_Mo_decode_240 (mo_h hl) rfl ?_
      refine mj_iload_n d_Mo_decode_243 rfl ?_
      have q15 := og_1 hk
      replace hk := og_2 hk
      refine mj_iald (f := (g.2 8)) d_Mo_decode_244 (mo_a8 hl) q15 ?_
      have q16 := og_1 hk
      replace hk := og_2 hk
      refine mj_iast (f := (g.2 3)) d_Mo_decode_245 (mo_a3 hl) q16 ?_
      refine mj_hp (h1 := mo_up h (g.1, mo_uA g.2 3 (upd (g.2 3) (x2 : Int32).toNatClampNeg (((g.2 8) (x2 : Int32).toNatClampNeg))))) (mo_b3 (g := g) hl (upd (g.2 3) (x2 : Int32).toNatClampNeg (((g.2 8) (x2 : Int32).toNatClampNeg)))) ?_
      refine mj_iinc (x := x2) (v := x2 + 1) (L' := [some (.ref 27), none, some (.int (x2 + 1))]) d_Mo_decode_246 rfl rfl (by decide) rfl rfl ?_
      refine mj_goto (tgt := 227) d_Mo_decode_249 (by decide) ?_
      exact hbk _ _ hk
noncomputable def j_decode_132 (g : mo_G) : Option (Prod Int32 mo_G) := if (g.1 9) ≤ 0 then (l_decode_175 (fun  g14 => l_decode_227 (fun  g17 => some ((g17.1 13), g17)) 2000 0 g14) 2000 0 (upd (upd (upd (upd g.1 5 (g.1 9)) 0 (g.1 10)) 1 (g.1 11)) 2 (g.1 12), g.2)) else (some (0, (upd g.1 5 (g.1 9), g.2)))
set_option maxRecDepth 100000 in
set_option maxHeartbeats 4000000 in
theorem tj_decode_132 {h : mj_H} {r : (Prod Int32 mo_G)} (hl : 39 < h.length) {g : mo_G} (hk : j_decode_132 g = some r) : mj_W M_Mo_decode (mj_q (some (.int r.1)) (mo_up h r.2)) (4, 113, none) 0 0 132 [some (.ref 27), none, none] [] (mo_up h g) := by
  unfold j_decode_132 at hk
  refine mj_aload_n d_Mo_decode_132 rfl ?_
  refine mj_aload_n d_Mo_decode_133 rfl ?_
  refine mj_get ok_Mo (k := 21) (v := .int (g.1 9)) (by decide) fl_Mo_179 d_Mo_decode_134 (mo_h hl) rfl ?_
  refine mj_put ok_Mo (k := 5) (by decide) fl_Mo_59 rfl (fun _ => rfl) (fun _ => rfl) (Nat.le_of_ble_eq_true rfl) d_Mo_decode_137 (mo_h hl) ?_
  refine mj_hp (h1 := mo_up h (upd g.1 5 (g.1 9), g.2)) (mo_p5 (g := g) hl (g.1 9)) ?_
  refine mj_aload_n d_Mo_decode_140 rfl ?_
  refine mj_get ok_Mo (k := 21) (v := .int (g.1 9)) (by decide) fl_Mo_179 d_Mo_decode_141 (mo_h hl) rfl ?_
  refine mj_if_le (tgt := 149) d_Mo_decode_144 (by decide) (fun c_144 => ?_) (fun c_144 => ?_)
  · replace hk := og_pos c_144 hk
    refine mj_aload_n d_Mo_decode_149 rfl ?_
    refine mj_aload_n d_Mo_decode_150 rfl ?_
    refine mj_get ok_Mo (k := 22) (v := .int (g.1 10)) (by decide) fl_Mo_191 d_Mo_decode_151 (mo_h hl) rfl ?_
    refine mj_put ok_Mo (k := 0) (by decide) fl_Mo_7 rfl (fun _ => rfl) (fun _ => rfl) (Nat.le_of_ble_eq_true rfl) d_Mo_decode_154 (mo_h hl) ?_
    refine mj_hp (h1 := mo_up h (upd (upd g.1 5 (g.1 9)) 0 (g.1 10), g.2)) (mo_p0 (g := (upd g.1 5 (g.1 9), g.2)) hl (g.1 10)) ?_
    refine mj_aload_n d_Mo_decode_157 rfl ?_
    refine mj_aload_n d_Mo_decode_158 rfl ?_
    refine mj_get ok_Mo (k := 23) (v := .int (g.1 11)) (by decide) fl_Mo_194 d_Mo_decode_159 (mo_h hl) rfl ?_
    refine mj_put ok_Mo (k := 1) (by decide) fl_Mo_13 rfl (fun _ => rfl) (fun _ => rfl) (Nat.le_of_ble_eq_true rfl) d_Mo_decode_162 (mo_h hl) ?_
    refine mj_hp (h1 := mo_up h (upd (upd (upd g.1 5 (g.1 9)) 0 (g.1 10)) 1 (g.1 11), g.2)) (mo_p1 (g := (upd (upd g.1 5 (g.1 9)) 0 (g.1 10), g.2)) hl (g.1 11)) ?_
    refine mj_aload_n d_Mo_decode_165 rfl ?_
    refine mj_aload_n d_Mo_decode_166 rfl ?_
    refine mj_get ok_Mo (k := 24) (v := .int (g.1 12)) (by decide) fl_Mo_200 d_Mo_decode_167 (mo_h hl) rfl ?_
    refine mj_put ok_Mo (k := 2) (by decide) fl_Mo_16 rfl (fun _ => rfl) (fun _ => rfl) (Nat.le_of_ble_eq_true rfl) d_Mo_decode_170 (mo_h hl) ?_
    refine mj_hp (h1 := mo_up h (upd (upd (upd (upd g.1 5 (g.1 9)) 0 (g.1 10)) 1 (g.1 11)) 2 (g.1 12), g.2)) (mo_p2 (g := (upd (upd (upd g.1 5 (g.1 9)) 0 (g.1 10)) 1 (g.1 11), g.2)) hl (g.1 12)) ?_
    refine mj_iconst (v := 0) d_Mo_decode_173 (by decide) ?_
    refine mj_istore_n (L' := [some (.ref 27), none, some (.int 0)]) d_Mo_decode_174 (by decide) rfl rfl ?_
    refine tl_decode_175 hl ?_ 2000 _ _ hk
    intro  g14 hk
    refine mj_iconst (v := 0) d_Mo_decode_225 (by decide) ?_
    refine mj_istore_n (L' := [some (.ref 27), none, some (.int 0)]) d_Mo_decode_226 (by decide) rfl rfl ?_
    refine tl_decode_227 hl ?_ 2000 _ _ hk
    intro  g17 hk
    refine mj_aload_n d_Mo_decode_252 rfl ?_
    refine mj_get ok_Mo (k := 25) (v := .int (g17.1 13)) (by decide) fl_Mo_197 d_Mo_decode_253 (mo_h hl) rfl ?_
    cases hk
    exact mj_iret rfl d_Mo_decode_256 ⟨rfl, rfl⟩
  · replace hk := og_neg c_144 hk
    refine mj_iconst (v := 0) d_Mo_decode_147 (by decide) ?_
    cases hk
    exact mj_iret rfl d_Mo_decode_148 ⟨rfl, rfl⟩
noncomputable def j_decode_105 (g : mo_G) : Option (Prod Int32 mo_G) := if (g.1 9) = 0 then (if (g.1 3) ≤ (g.1 8) then (j_decode_132 g) else ((r_wrong (g.1 8) 1 g).bind (fun z18 => j_decode_132 z18))) else (j_decode_132 g)
set_option maxRecDepth 100000 in
set_option maxHeartbeats 4000000 in
theorem tj_decode_105 {h : mj_H} {r : (Prod Int32 mo_G)} (hl : 39 < h.length) {g : mo_G} (hk : j_decode_105 g = some r) : mj_W M_Mo_decode (mj_q (some (.int r.1)) (mo_up h r.2)) (4, 113, none) 0 0 105 [some (.ref 27), none, none] [] (mo_up h g) := by
  unfold j_decode_105 at hk
  refine mj_aload_n d_Mo_decode_105 rfl ?_
  refine mj_get ok_Mo (k := 21) (v := .int (g.1 9)) (by decide) fl_Mo_179 d_Mo_decode_106 (mo_h hl) rfl ?_
  refine mj_if_ne (tgt := 132) d_Mo_decode_109 (by decide) (fun c_109 => ?_) (fun c_109 => ?_)
  · replace hk := og_neg c_109 hk
    exact tj_decode_132 hl hk
  · replace hk := og_pos c_109 hk
    refine mj_aload_n d_Mo_decode_112 rfl ?_
    refine mj_get ok_Mo (k := 20) (v := .int (g.1 8)) (by decide) fl_Mo_182 d_Mo_decode_113 (mo_h hl) rfl ?_
    refine mj_aload_n d_Mo_decode_116 rfl ?_
    refine mj_get ok_Mo (k := 3) (v := .int (g.1 3)) (by decide) fl_Mo_158 d_Mo_decode_117 (mo_h hl) rfl ?_
    refine mj_icmp_ge (tgt := 132) d_Mo_decode_120 (by decide) (fun c_120 => ?_) (fun c_120 => ?_)
    · replace hk := og_pos c_120 hk
      exact tj_decode_132 hl hk
    · replace hk := og_neg c_120 hk
      refine mj_aload_n d_Mo_decode_123 rfl ?_
      refine mj_aload_n d_Mo_decode_124 rfl ?_
      refine mj_get ok_Mo (k := 20) (v := .int (g.1 8)) (by decide) fl_Mo_182 d_Mo_decode_125 (mo_h hl) rfl ?_
      refine mj_iconst (v := 1) d_Mo_decode_128 (by decide) ?_
      obtain ⟨z18, hz18, hk⟩ := og_b hk
      refine mj_cV (S := []) (S1 := []) (tm_wrong hl hz18) d_Mo_decode_129 cw_Mo_wrong ml_Mo_185 im_Mo_wrong se_Mo_wrong rfl (mo_h hl) (by decide) rfl (Nat.le_of_ble_eq_true rfl) rfl rfl ?_
      exact tj_decode_132 hl hk
noncomputable def j_decode_66 (x1 : Int32) (g : mo_G) : Option (Prod Int32 mo_G) := l_decode_68 (fun  g7 => j_decode_105 g7) 2000 x1 0 g
set_option maxRecDepth 100000 in
set_option maxHeartbeats 4000000 in
theorem tj_decode_66 {h : mj_H} {r : (Prod Int32 mo_G)} (hl : 39 < h.length) {x1 : Int32} {g : mo_G} (hk : j_decode_66 x1 g = some r) : mj_W M_Mo_decode (mj_q (some (.int r.1)) (mo_up h r.2)) (4, 113, none) 0 0 66 [some (.ref 27), some (.int x1), none] [] (mo_up h g) := by
  unfold j_decode_66 at hk
  refine mj_iconst (v := 0) d_Mo_decode_66 (by decide) ?_
  refine mj_istore_n (L' := [some (.ref 27), some (.int x1), some (.int 0)]) d_Mo_decode_67 (by decide) rfl rfl ?_
  refine tl_decode_68 hl ?_ 2000 _ _ _ hk
  intro  g7 hk
  exact tj_decode_105 hl hk
noncomputable def r_decode (g : mo_G) : Option (Prod Int32 mo_G) := l_decode_13 (fun  g2 => (r_readHead  g2).bind (fun z3 => (r_linesOf (z3.1 13)).bind (fun z4 => if (z3.1 9) = 0 then (og (¬ z4 = 0) ((r_readOffsets (((((((z3.1 11) + z4)) - 1)) / z4)) z3).bind (fun z20 => j_decode_66 z4 z20))) else (j_decode_66 z4 z3)))) 2000 0 (upd (upd g.1 9 0) 4 (-2), g.2)
set_option maxRecDepth 100000 in
set_option maxHeartbeats 4000000 in
theorem tm_decode {h : mj_H} {r : (Prod Int32 mo_G)} (hl : 39 < h.length) {g : mo_G} (hk : r_decode g = some r) : mj_Met M_Mo_decode (4, 113, none) 0 0 [.ref 27] (mo_up h g) (mj_q (some (.int r.1)) (mo_up h r.2)) := by
  unfold r_decode at hk
  refine mj_enter (r := 2) rfl rfl (by decide) rfl ?_
  show mj_W M_Mo_decode _ _ _ _ 0 [some (.ref 27), none, none] [] (mo_up h g)
  refine mj_aload_n d_Mo_decode_0 rfl ?_
  refine mj_iconst (v := 0) d_Mo_decode_1 (by decide) ?_
  refine mj_put ok_Mo (k := 21) (by decide) fl_Mo_179 rfl (fun _ => rfl) (fun _ => rfl) (Nat.le_of_ble_eq_true rfl) d_Mo_decode_2 (mo_h hl) ?_
  refine mj_hp (h1 := mo_up h (upd g.1 9 0, g.2)) (mo_p9 (g := g) hl 0) ?_
  refine mj_aload_n d_Mo_decode_5 rfl ?_
  refine mj_bipush (v := (-2)) d_Mo_decode_6 (by decide) ?_
  refine mj_put ok_Mo (k := 4) (by decide) fl_Mo_19 rfl (fun _ => rfl) (fun _ => rfl) (Nat.le_of_ble_eq_true rfl) d_Mo_decode_8 (mo_h hl) ?_
  refine mj_hp (h1 := mo_up h (upd (upd g.1 9 0) 4 (-2), g.2)) (mo_p4 (g := (upd g.1 9 0, g.2)) hl (-2)) ?_
  refine mj_iconst (v := 0) d_Mo_decode_11 (by decide) ?_
  refine mj_istore_n (L' := [some (.ref 27), some (.int 0), none]) d_Mo_decode_12 (by decide) rfl rfl ?_
  refine tl_decode_13 hl ?_ 2000 _ _ hk
  intro  g2 hk
  refine mj_aload_n d_Mo_decode_33 rfl ?_
  obtain ⟨z3, hz3, hk⟩ := og_b hk
  refine mj_cV (S := []) (S1 := []) (tm_readHead hl hz3) d_Mo_decode_34 cw_Mo_readHead ml_Mo_237 im_Mo_readHead se_Mo_readHead rfl (mo_h hl) (by decide) rfl (Nat.le_of_ble_eq_true rfl) rfl rfl ?_
  refine mj_aload_n d_Mo_decode_37 rfl ?_
  refine mj_get ok_Mo (k := 25) (v := .int (z3.1 13)) (by decide) fl_Mo_197 d_Mo_decode_38 (mo_h hl) rfl ?_
  obtain ⟨z4, hz4, hk⟩ := og_b hk
  refine mj_cS (S := []) (S1 := [.int z4]) (tm_linesOf hz4) d_Mo_decode_41 cw_Mo_linesOf ml_Mo_173 st_Mo_linesOf (by decide) rfl (Nat.le_of_ble_eq_true rfl) rfl rfl ?_
  refine mj_istore_n (L' := [some (.ref 27), some (.int z4), none]) d_Mo_decode_44 (by decide) rfl rfl ?_
  refine mj_aload_n d_Mo_decode_45 rfl ?_
  refine mj_get ok_Mo (k := 21) (v := .int (z3.1 9)) (by decide) fl_Mo_179 d_Mo_decode_46 (mo_h hl) rfl ?_
  refine mj_if_ne (tgt := 66) d_Mo_decode_49 (by decide) (fun c_49 => ?_) (fun c_49 => ?_)
  · replace hk := og_neg c_49 hk
    exact tj_decode_66 hl hk
  · replace hk := og_pos c_49 hk
    refine mj_aload_n d_Mo_decode_52 rfl ?_
    refine mj_aload_n d_Mo_decode_53 rfl ?_
    refine mj_get ok_Mo (k := 23) (v := .int (z3.1 11)) (by decide) fl_Mo_194 d_Mo_decode_54 (mo_h hl) rfl ?_
    refine mj_iload_n d_Mo_decode_57 rfl ?_
    refine mj_iadd d_Mo_decode_58 ?_
    refine mj_iconst (v := 1) d_Mo_decode_59 (by decide) ?_
    refine mj_isub d_Mo_decode_60 ?_
    refine mj_iload_n d_Mo_decode_61 rfl ?_
    have q19 := og_1 hk
    replace hk := og_2 hk
    refine mj_idiv d_Mo_decode_62 q19 ?_
    obtain ⟨z20, hz20, hk⟩ := og_b hk
    refine mj_cV (S := []) (S1 := []) (tm_readOffsets hl hz20) d_Mo_decode_63 cw_Mo_readOffsets ml_Mo_240 im_Mo_readOffsets se_Mo_readOffsets rfl (mo_h hl) (by decide) rfl (Nat.le_of_ble_eq_true rfl) rfl rfl ?_
    exact tj_decode_66 hl hk
noncomputable def r_where (g : mo_G) : Option (Prod Int32 mo_G) := some ((g.1 4), (upd g.1 5 0, g.2))
set_option maxRecDepth 100000 in
set_option maxHeartbeats 4000000 in
theorem tm_where {h : mj_H} {r : (Prod Int32 mo_G)} (hl : 39 < h.length) {g : mo_G} (hk : r_where g = some r) : mj_Met M_Mo_where (0, 0, none) 0 0 [.ref 27] (mo_up h g) (mj_q (some (.int r.1)) (mo_up h r.2)) := by
  unfold r_where at hk
  refine mj_enter (r := 0) rfl rfl (by decide) rfl ?_
  show mj_W M_Mo_where _ _ _ _ 0 [some (.ref 27)] [] (mo_up h g)
  refine mj_aload_n d_Mo_where_0 rfl ?_
  refine mj_iconst (v := 0) d_Mo_where_1 (by decide) ?_
  refine mj_put ok_Mo (k := 5) (by decide) fl_Mo_59 rfl (fun _ => rfl) (fun _ => rfl) (Nat.le_of_ble_eq_true rfl) d_Mo_where_2 (mo_h hl) ?_
  refine mj_hp (h1 := mo_up h (upd g.1 5 0, g.2)) (mo_p5 (g := g) hl 0) ?_
  refine mj_aload_n d_Mo_where_5 rfl ?_
  refine mj_get ok_Mo (k := 4) (v := .int (g.1 4)) (by decide) fl_Mo_19 d_Mo_where_6 (mo_h hl) rfl ?_
  cases hk
  exact mj_iret rfl d_Mo_where_9 ⟨rfl, rfl⟩
