noncomputable def j_set_42 (x1 : Int32) (x2 : Int32) (x3 : Int32) (x4 : UInt64) (s0 : Int32) (g : mo_G) : Option (Prod UInt64 mo_G) := if s0 ≤ 0 then (og (vp_in (x1 : Int32) 3) ((r_bitsFor (((g.2 1) (x1 : Int32).toNatClampNeg)) x4).bind (fun z3 => og (vp_in (((((64 * x1) + (8 * x3))) + x2) : Int32) 192) (og (vp_in (x1 : Int32) 3) (og (vp_in (((((64 * x1) + (8 * x3))) + x2) : Int32) 192) ((r_told (((g.2 1) (x1 : Int32).toNatClampNeg)) ((upd (g.2 3) (((((64 * x1) + (8 * x3))) + x2) : Int32).toNatClampNeg z3 (((((64 * x1) + (8 * x3))) + x2) : Int32).toNatClampNeg))).bind (fun z7 => some (z7, (upd g.1 5 s0, mo_uA g.2 3 (upd (g.2 3) (((((64 * x1) + (8 * x3))) + x2) : Int32).toNatClampNeg z3)))))))))) else (some (FP.dconst0, (upd g.1 5 s0, g.2)))
set_option maxRecDepth 100000 in
set_option maxHeartbeats 4000000 in
theorem tj_set_42 {h : mj_H} {r : (Prod UInt64 mo_G)} (hl : 39 < h.length) {x1 : Int32} {x2 : Int32} {x3 : Int32} {x4 : UInt64} {s0 : Int32} {g : mo_G} (hk : j_set_42 x1 x2 x3 x4 s0 g = some r) : mj_W M_Mo_set (mj_q (some (.double r.1)) (mo_up h r.2)) (3, 76, none) 0 0 42 [some (.ref 27), some (.int x1), some (.int x2), some (.int x3), some (.double x4), none, none] [.int s0, .ref 27] (mo_up h g) := by
  unfold j_set_42 at hk
  refine mj_put ok_Mo (k := 5) (by decide) fl_Mo_59 rfl (fun _ => rfl) (fun _ => rfl) (Nat.le_of_ble_eq_true rfl) d_Mo_set_42 (mo_h hl) ?_
  refine mj_hp (h1 := mo_up h (upd g.1 5 s0, g.2)) (mo_p5 (g := g) hl s0) ?_
  refine mj_aload_n d_Mo_set_45 rfl ?_
  refine mj_get ok_Mo (k := 5) (v := .int s0) (by decide) fl_Mo_59 d_Mo_set_46 (mo_h hl) rfl ?_
  refine mj_if_le (tgt := 54) d_Mo_set_49 (by decide) (fun c_49 => ?_) (fun c_49 => ?_)
  · replace hk := og_pos c_49 hk
    refine mj_aload_n d_Mo_set_54 rfl ?_
    refine mj_get ok_Mo (k := 9) (v := .ref 31) (by decide) fl_Mo_32 d_Mo_set_55 (mo_h hl) rfl ?_
    refine mj_bipush (v := 64) d_Mo_set_58 (by decide) ?_
    refine mj_iload_n d_Mo_set_60 rfl ?_
    refine mj_imul d_Mo_set_61 ?_
    refine mj_bipush (v := 8) d_Mo_set_62 (by decide) ?_
    refine mj_iload_n d_Mo_set_64 rfl ?_
    refine mj_imul d_Mo_set_65 ?_
    refine mj_iadd d_Mo_set_66 ?_
    refine mj_iload_n d_Mo_set_67 rfl ?_
    refine mj_iadd d_Mo_set_68 ?_
    refine mj_aload_n d_Mo_set_69 rfl ?_
    refine mj_get ok_Mo (k := 7) (v := .ref 29) (by decide) fl_Mo_26 d_Mo_set_70 (mo_h hl) rfl ?_
    refine mj_iload_n d_Mo_set_73 rfl ?_
    have q2 := og_1 hk
    replace hk := og_2 hk
    refine mj_iald (f := (g.2 1)) d_Mo_set_74 (mo_a1 hl) q2 ?_
    refine mj_dload d_Mo_set_75 rfl ?_
    obtain ⟨z3, hz3, hk⟩ := og_b hk
    refine mj_cS (S := [.int ((((64 * x1) + (8 * x3))) + x2), .ref 31]) (S1 := [.int z3, .int ((((64 * x1) + (8 * x3))) + x2), .ref 31]) (tm_bitsFor hz3) d_Mo_set_77 cw_Mo_bitsFor ml_Mo_102 st_Mo_bitsFor (by decide) rfl (Nat.le_of_ble_eq_true rfl) rfl rfl ?_
    have q4 := og_1 hk
    replace hk := og_2 hk
    refine mj_iast (f := (g.2 3)) d_Mo_set_80 (mo_a3 hl) q4 ?_
    refine mj_hp (h1 := mo_up h (upd g.1 5 s0, mo_uA g.2 3 (upd (g.2 3) (((((64 * x1) + (8 * x3))) + x2) : Int32).toNatClampNeg z3))) (mo_b3 (g := (upd g.1 5 s0, g.2)) hl (upd (g.2 3) (((((64 * x1) + (8 * x3))) + x2) : Int32).toNatClampNeg z3)) ?_
    refine mj_aload_n d_Mo_set_81 rfl ?_
    refine mj_get ok_Mo (k := 7) (v := .ref 29) (by decide) fl_Mo_26 d_Mo_set_82 (mo_h hl) rfl ?_
    refine mj_iload_n d_Mo_set_85 rfl ?_
    have q5 := og_1 hk
    replace hk := og_2 hk
    refine mj_iald (f := (g.2 1)) d_Mo_set_86 (mo_a1 hl) q5 ?_
    refine mj_aload_n d_Mo_set_87 rfl ?_
    refine mj_get ok_Mo (k := 9) (v := .ref 31) (by decide) fl_Mo_32 d_Mo_set_88 (mo_h hl) rfl ?_
    refine mj_bipush (v := 64) d_Mo_set_91 (by decide) ?_
    refine mj_iload_n d_Mo_set_93 rfl ?_
    refine mj_imul d_Mo_set_94 ?_
    refine mj_bipush (v := 8) d_Mo_set_95 (by decide) ?_
    refine mj_iload_n d_Mo_set_97 rfl ?_
    refine mj_imul d_Mo_set_98 ?_
    refine mj_iadd d_Mo_set_99 ?_
    refine mj_iload_n d_Mo_set_100 rfl ?_
    refine mj_iadd d_Mo_set_101 ?_
    have q6 := og_1 hk
    replace hk := og_2 hk
    refine mj_iald (f := upd (g.2 3) (((((64 * x1) + (8 * x3))) + x2) : Int32).toNatClampNeg z3) d_Mo_set_102 (mo_a3 hl) q6 ?_
    obtain ⟨z7, hz7, hk⟩ := og_b hk
    refine mj_cS (S := []) (S1 := [.double z7]) (tm_told hz7) d_Mo_set_103 cw_Mo_told ml_Mo_106 st_Mo_told (by decide) rfl (Nat.le_of_ble_eq_true rfl) rfl rfl ?_
    cases hk
    exact mj_dret rfl d_Mo_set_106 ⟨rfl, rfl⟩
  · replace hk := og_neg c_49 hk
    refine mj_dconst0 d_Mo_set_52 ?_
    cases hk
    exact mj_dret rfl d_Mo_set_53 ⟨rfl, rfl⟩
noncomputable def j_set_28 (x1 : Int32) (x2 : Int32) (x3 : Int32) (x4 : UInt64) (g : mo_G) : Option (Prod UInt64 mo_G) := j_set_42 x1 x2 x3 x4 1 g
set_option maxRecDepth 100000 in
set_option maxHeartbeats 4000000 in
theorem tj_set_28 {h : mj_H} {r : (Prod UInt64 mo_G)} (hl : 39 < h.length) {x1 : Int32} {x2 : Int32} {x3 : Int32} {x4 : UInt64} {g : mo_G} (hk : j_set_28 x1 x2 x3 x4 g = some r) : mj_W M_Mo_set (mj_q (some (.double r.1)) (mo_up h r.2)) (3, 76, none) 0 0 28 [some (.ref 27), some (.int x1), some (.int x2), some (.int x3), some (.double x4), none, none] [.ref 27] (mo_up h g) := by
  unfold j_set_28 at hk
  refine mj_iconst (v := 1) d_Mo_set_28 (by decide) ?_
  refine mj_goto (tgt := 42) d_Mo_set_29 (by decide) ?_
  exact tj_set_42 hl hk
noncomputable def r_set (x1 : Int32) (x2 : Int32) (x3 : Int32) (x4 : UInt64) (g : mo_G) : Option (Prod UInt64 mo_G) := (r_has x1 x2 x3 g).bind (fun z1 => if 0 < ((Op.cmpValue (FP.dcmp x4 5055640609639927018) .g)) then (j_set_28 x1 x2 x3 x4 z1.2) else (if 0 ≤ ((Op.cmpValue (FP.dcmp x4 14279012646494702826) .l)) then (if z1.1 = 0 then (j_set_42 x1 x2 x3 x4 2 z1.2) else (j_set_42 x1 x2 x3 x4 0 z1.2)) else (j_set_28 x1 x2 x3 x4 z1.2)))
set_option maxRecDepth 100000 in
set_option maxHeartbeats 4000000 in
theorem tm_set {h : mj_H} {r : (Prod UInt64 mo_G)} (hl : 39 < h.length) {x1 : Int32} {x2 : Int32} {x3 : Int32} {x4 : UInt64} {g : mo_G} (hk : r_set x1 x2 x3 x4 g = some r) : mj_Met M_Mo_set (3, 76, none) 0 0 [.ref 27, .int x1, .int x2, .int x3, .double x4] (mo_up h g) (mj_q (some (.double r.1)) (mo_up h r.2)) := by
  unfold r_set at hk
  refine mj_enter (r := 1) rfl rfl (by decide) rfl ?_
  show mj_W M_Mo_set _ _ _ _ 0 [some (.ref 27), some (.int x1), some (.int x2), some (.int x3), some (.double x4), none, none] [] (mo_up h g)
  refine mj_aload_n d_Mo_set_0 rfl ?_
  refine mj_iload_n d_Mo_set_1 rfl ?_
  refine mj_iload_n d_Mo_set_2 rfl ?_
  refine mj_iload_n d_Mo_set_3 rfl ?_
  obtain ⟨z1, hz1, hk⟩ := og_b hk
  refine mj_cV (S := []) (S1 := [.int z1.1]) (tm_has hl hz1) d_Mo_set_4 cw_Mo_has ml_Mo_95 im_Mo_has se_Mo_has rfl (mo_h hl) (by decide) rfl (Nat.le_of_ble_eq_true rfl) rfl rfl ?_
  refine mj_istore (L' := [some (.ref 27), some (.int x1), some (.int x2), some (.int x3), some (.double x4), none, some (.int z1.1)]) d_Mo_set_7 (by decide) rfl rfl ?_
  refine mj_aload_n d_Mo_set_9 rfl ?_
  refine mj_dload d_Mo_set_10 rfl ?_
  refine mj_ldc2d d_Mo_set_12 kd_Mo_98 ?_
  refine mj_dcmp d_Mo_set_15 ?_
  refine mj_if_gt (tgt := 28) d_Mo_set_16 (by decide) (fun c_16 => ?_) (fun c_16 => ?_)
  · replace hk := og_pos c_16 hk
    refine mj_fg 6 (L' := [some (.ref 27), some (.int x1), some (.int x2), some (.int x3), some (.double x4), none, none]) rfl ?_
    exact tj_set_28 hl hk
  · replace hk := og_neg c_16 hk
    refine mj_dload d_Mo_set_19 rfl ?_
    refine mj_ldc2d d_Mo_set_21 kd_Mo_100 ?_
    refine mj_dcmp d_Mo_set_24 ?_
    refine mj_if_ge (tgt := 32) d_Mo_set_25 (by decide) (fun c_25 => ?_) (fun c_25 => ?_)
    · replace hk := og_pos c_25 hk
      refine mj_iload d_Mo_set_32 rfl ?_
      refine mj_if_ne (tgt := 41) d_Mo_set_34 (by decide) (fun c_34 => ?_) (fun c_34 => ?_)
      · replace hk := og_neg c_34 hk
        refine mj_iconst (v := 0) d_Mo_set_41 (by decide) ?_
        refine mj_fg 6 (L' := [some (.ref 27), some (.int x1), some (.int x2), some (.int x3), some (.double x4), none, none]) rfl ?_
        exact tj_set_42 hl hk
      · replace hk := og_pos c_34 hk
        refine mj_iconst (v := 2) d_Mo_set_37 (by decide) ?_
        refine mj_goto (tgt := 42) d_Mo_set_38 (by decide) ?_
        refine mj_fg 6 (L' := [some (.ref 27), some (.int x1), some (.int x2), some (.int x3), some (.double x4), none, none]) rfl ?_
        exact tj_set_42 hl hk
    · replace hk := og_neg c_25 hk
      refine mj_fg 6 (L' := [some (.ref 27), some (.int x1), some (.int x2), some (.int x3), some (.double x4), none, none]) rfl ?_
      exact tj_set_28 hl hk
noncomputable def j_get_20 (x1 : Int32) (x2 : Int32) (x3 : Int32) (x4 : Int32) (s0 : Int32) (g : mo_G) : Option (Prod UInt64 mo_G) := if x4 = 0 then (some (FP.dconst0, (upd g.1 5 s0, g.2))) else (og (vp_in (x1 : Int32) 3) (og (vp_in (((((64 * x1) + (8 * x3))) + x2) : Int32) 192) ((r_told (((g.2 1) (x1 : Int32).toNatClampNeg)) (((g.2 3) (((((64 * x1) + (8 * x3))) + x2) : Int32).toNatClampNeg))).bind (fun z4 => some (z4, (upd g.1 5 s0, g.2))))))
set_option maxRecDepth 100000 in
set_option maxHeartbeats 4000000 in
theorem tj_get_20 {h : mj_H} {r : (Prod UInt64 mo_G)} (hl : 39 < h.length) {x1 : Int32} {x2 : Int32} {x3 : Int32} {x4 : Int32} {s0 : Int32} {g : mo_G} (hk : j_get_20 x1 x2 x3 x4 s0 g = some r) : mj_W M_Mo_get (mj_q (some (.double r.1)) (mo_up h r.2)) (2, 50, none) 0 0 20 [some (.ref 27), some (.int x1), some (.int x2), some (.int x3), some (.int x4)] [.int s0, .ref 27] (mo_up h g) := by
  unfold j_get_20 at hk
  refine mj_put ok_Mo (k := 5) (by decide) fl_Mo_59 rfl (fun _ => rfl) (fun _ => rfl) (Nat.le_of_ble_eq_true rfl) d_Mo_get_20 (mo_h hl) ?_
  refine mj_hp (h1 := mo_up h (upd g.1 5 s0, g.2)) (mo_p5 (g := g) hl s0) ?_
  refine mj_iload d_Mo_get_23 rfl ?_
  refine mj_if_eq (tgt := 56) d_Mo_get_25 (by decide) (fun c_25 => ?_) (fun c_25 => ?_)
  · replace hk := og_pos c_25 hk
    refine mj_dconst0 d_Mo_get_56 ?_
    cases hk
    exact mj_dret rfl d_Mo_get_57 ⟨rfl, rfl⟩
  · replace hk := og_neg c_25 hk
    refine mj_aload_n d_Mo_get_28 rfl ?_
    refine mj_get ok_Mo (k := 7) (v := .ref 29) (by decide) fl_Mo_26 d_Mo_get_29 (mo_h hl) rfl ?_
    refine mj_iload_n d_Mo_get_32 rfl ?_
    have q2 := og_1 hk
    replace hk := og_2 hk
    refine mj_iald (f := (g.2 1)) d_Mo_get_33 (mo_a1 hl) q2 ?_
    refine mj_aload_n d_Mo_get_34 rfl ?_
    refine mj_get ok_Mo (k := 9) (v := .ref 31) (by decide) fl_Mo_32 d_Mo_get_35 (mo_h hl) rfl ?_
    refine mj_bipush (v := 64) d_Mo_get_38 (by decide) ?_
    refine mj_iload_n d_Mo_get_40 rfl ?_
    refine mj_imul d_Mo_get_41 ?_
    refine mj_bipush (v := 8) d_Mo_get_42 (by decide) ?_
    refine mj_iload_n d_Mo_get_44 rfl ?_
    refine mj_imul d_Mo_get_45 ?_
    refine mj_iadd d_Mo_get_46 ?_
    refine mj_iload_n d_Mo_get_47 rfl ?_
    refine mj_iadd d_Mo_get_48 ?_
    have q3 := og_1 hk
    replace hk := og_2 hk
    refine mj_iald (f := (g.2 3)) d_Mo_get_49 (mo_a3 hl) q3 ?_
    obtain ⟨z4, hz4, hk⟩ := og_b hk
    refine mj_cS (S := []) (S1 := [.double z4]) (tm_told hz4) d_Mo_get_50 cw_Mo_told ml_Mo_106 st_Mo_told (by decide) rfl (Nat.le_of_ble_eq_true rfl) rfl rfl ?_
    refine mj_goto (tgt := 57) d_Mo_get_53 (by decide) ?_
    cases hk
    exact mj_dret rfl d_Mo_get_57 ⟨rfl, rfl⟩
noncomputable def r_get (x1 : Int32) (x2 : Int32) (x3 : Int32) (g : mo_G) : Option (Prod UInt64 mo_G) := (r_has x1 x2 x3 g).bind (fun z1 => if z1.1 = 0 then (j_get_20 x1 x2 x3 z1.1 1 z1.2) else (j_get_20 x1 x2 x3 z1.1 0 z1.2))
set_option maxRecDepth 100000 in
set_option maxHeartbeats 4000000 in
theorem tm_get {h : mj_H} {r : (Prod UInt64 mo_G)} (hl : 39 < h.length) {x1 : Int32} {x2 : Int32} {x3 : Int32} {g : mo_G} (hk : r_get x1 x2 x3 g = some r) : mj_Met M_Mo_get (2, 50, none) 0 0 [.ref 27, .int x1, .int x2, .int x3] (mo_up h g) (mj_q (some (.double r.1)) (mo_up h r.2)) := by
  unfold r_get at hk
  refine mj_enter (r := 1) rfl rfl (by decide) rfl ?_
  show mj_W M_Mo_get _ _ _ _ 0 [some (.ref 27), some (.int x1), some (.int x2), some (.int x3), none] [] (mo_up h g)
  refine mj_aload_n d_Mo_get_0 rfl ?_
  refine mj_iload_n d_Mo_get_1 rfl ?_
  refine mj_iload_n d_Mo_get_2 rfl ?_
  refine mj_iload_n d_Mo_get_3 rfl ?_
  obtain ⟨z1, hz1, hk⟩ := og_b hk
  refine mj_cV (S := []) (S1 := [.int z1.1]) (tm_has hl hz1) d_Mo_get_4 cw_Mo_has ml_Mo_95 im_Mo_has se_Mo_has rfl (mo_h hl) (by decide) rfl (Nat.le_of_ble_eq_true rfl) rfl rfl ?_
  refine mj_istore (L' := [some (.ref 27), some (.int x1), some (.int x2), some (.int x3), some (.int z1.1)]) d_Mo_get_7 (by decide) rfl rfl ?_
  refine mj_aload_n d_Mo_get_9 rfl ?_
  refine mj_iload d_Mo_get_10 rfl ?_
  refine mj_if_eq (tgt := 19) d_Mo_get_12 (by decide) (fun c_12 => ?_) (fun c_12 => ?_)
  · replace hk := og_pos c_12 hk
    refine mj_iconst (v := 1) d_Mo_get_19 (by decide) ?_
    exact tj_get_20 hl hk
  · replace hk := og_neg c_12 hk
    refine mj_iconst (v := 0) d_Mo_get_15 (by decide) ?_
    refine mj_goto (tgt := 20) d_Mo_get_16 (by decide) ?_
    exact tj_get_20 hl hk
noncomputable def j_bits_20 (x1 : Int32) (x2 : Int32) (x3 : Int32) (x4 : Int32) (s0 : Int32) (g : mo_G) : Option (Prod Int32 mo_G) := if x4 = 0 then (some (0, (upd g.1 5 s0, g.2))) else (og (vp_in (((((64 * x1) + (8 * x3))) + x2) : Int32) 192) (some (((g.2 3) (((((64 * x1) + (8 * x3))) + x2) : Int32).toNatClampNeg), (upd g.1 5 s0, g.2))))
set_option maxRecDepth 100000 in
set_option maxHeartbeats 4000000 in
theorem tj_bits_20 {h : mj_H} {r : (Prod Int32 mo_G)} (hl : 39 < h.length) {x1 : Int32} {x2 : Int32} {x3 : Int32} {x4 : Int32} {s0 : Int32} {g : mo_G} (hk : j_bits_20 x1 x2 x3 x4 s0 g = some r) : mj_W M_Mo_bits (mj_q (some (.int r.1)) (mo_up h r.2)) (2, 45, none) 0 0 20 [some (.ref 27), some (.int x1), some (.int x2), some (.int x3), some (.int x4)] [.int s0, .ref 27] (mo_up h g) := by
  unfold j_bits_20 at hk
  refine mj_put ok_Mo (k := 5) (by decide) fl_Mo_59 rfl (fun _ => rfl) (fun _ => rfl) (Nat.le_of_ble_eq_true rfl) d_Mo_bits_20 (mo_h hl) ?_
  refine mj_hp (h1 := mo_up h (upd g.1 5 s0, g.2)) (mo_p5 (g := g) hl s0) ?_
  refine mj_iload d_Mo_bits_23 rfl ?_
  refine mj_if_eq (tgt := 47) d_Mo_bits_25 (by decide) (fun c_25 => ?_) (fun c_25 => ?_)
  · replace hk := og_pos c_25 hk
    refine mj_iconst (v := 0) d_Mo_bits_47 (by decide) ?_
    cases hk
    exact mj_iret rfl d_Mo_bits_48 ⟨rfl, rfl⟩
  · replace hk := og_neg c_25 hk
    refine mj_aload_n d_Mo_bits_28 rfl ?_
    refine mj_get ok_Mo (k := 9) (v := .ref 31) (by decide) fl_Mo_32 d_Mo_bits_29 (mo_h hl) rfl ?_
    refine mj_bipush (v := 64) d_Mo_bits_32 (by decide) ?_
    refine mj_iload_n d_Mo_bits_34 rfl ?_
    refine mj_imul d_Mo_bits_35 ?_
    refine mj_bipush (v := 8) d_Mo_bits_36 (by decide) ?_
    refine mj_iload_n d_Mo_bits_38 rfl ?_
    refine mj_imul d_Mo_bits_39 ?_
    refine mj_iadd d_Mo_bits_40 ?_
    refine mj_iload_n d_Mo_bits_41 rfl ?_
    refine mj_iadd d_Mo_bits_42 ?_
    have q2 := og_1 hk
    replace hk := og_2 hk
    refine mj_iald (f := (g.2 3)) d_Mo_bits_43 (mo_a3 hl) q2 ?_
    refine mj_goto (tgt := 48) d_Mo_bits_44 (by decide) ?_
    cases hk
    exact mj_iret rfl d_Mo_bits_48 ⟨rfl, rfl⟩
noncomputable def r_bits (x1 : Int32) (x2 : Int32) (x3 : Int32) (g : mo_G) : Option (Prod Int32 mo_G) := (r_has x1 x2 x3 g).bind (fun z1 => if z1.1 = 0 then (j_bits_20 x1 x2 x3 z1.1 1 z1.2) else (j_bits_20 x1 x2 x3 z1.1 0 z1.2))
set_option maxRecDepth 100000 in
set_option maxHeartbeats 4000000 in
theorem tm_bits {h : mj_H} {r : (Prod Int32 mo_G)} (hl : 39 < h.length) {x1 : Int32} {x2 : Int32} {x3 : Int32} {g : mo_G} (hk : r_bits x1 x2 x3 g = some r) : mj_Met M_Mo_bits (2, 45, none) 0 0 [.ref 27, .int x1, .int x2, .int x3] (mo_up h g) (mj_q (some (.int r.1)) (mo_up h r.2)) := by
  unfold r_bits at hk
  refine mj_enter (r := 1) rfl rfl (by decide) rfl ?_
  show mj_W M_Mo_bits _ _ _ _ 0 [some (.ref 27), some (.int x1), some (.int x2), some (.int x3), none] [] (mo_up h g)
  refine mj_aload_n d_Mo_bits_0 rfl ?_
  refine mj_iload_n d_Mo_bits_1 rfl ?_
  refine mj_iload_n d_Mo_bits_2 rfl ?_
  refine mj_iload_n d_Mo_bits_3 rfl ?_
  obtain ⟨z1, hz1, hk⟩ := og_b hk
  refine mj_cV (S := []) (S1 := [.int z1.1]) (tm_has hl hz1) d_Mo_bits_4 cw_Mo_has ml_Mo_95 im_Mo_has se_Mo_has rfl (mo_h hl) (by decide) rfl (Nat.le_of_ble_eq_true rfl) rfl rfl ?_
  refine mj_istore (L' := [some (.ref 27), some (.int x1), some (.int x2), some (.int x3), some (.int z1.1)]) d_Mo_bits_7 (by decide) rfl rfl ?_
  refine mj_aload_n d_Mo_bits_9 rfl ?_
  refine mj_iload d_Mo_bits_10 rfl ?_
  refine mj_if_eq (tgt := 19) d_Mo_bits_12 (by decide) (fun c_12 => ?_) (fun c_12 => ?_)
  · replace hk := og_pos c_12 hk
    refine mj_iconst (v := 1) d_Mo_bits_19 (by decide) ?_
    exact tj_bits_20 hl hk
  · replace hk := og_neg c_12 hk
    refine mj_iconst (v := 0) d_Mo_bits_15 (by decide) ?_
    refine mj_goto (tgt := 20) d_Mo_bits_16 (by decide) ?_
    exact tj_bits_20 hl hk
noncomputable def j_spread_139 (K : Int32 → UInt64 → UInt64 → Int32 → mo_G → Option (Prod UInt64 mo_G)) (bk : Int32 → UInt64 → UInt64 → Int32 → Int32 → mo_G → Option (Prod UInt64 mo_G)) (x1 : Int32) (x2 : UInt64) (x4 : UInt64) (x6 : Int32) (x7 : Int32) (g : mo_G) : Option (Prod UInt64 mo_G) := og (vp_in (x1 : Int32) 3) (bk x1 x2 x4 x6 ((x7 + (((g.2 2) (x1 : Int32).toNatClampNeg)))) g)
set_option maxRecDepth 100000 in
set_option maxHeartbeats 4000000 in
theorem tj_spread_139 {h : mj_H} {r : (Prod UInt64 mo_G)} (hl : 39 < h.length) {K : Int32 → UInt64 → UInt64 → Int32 → mo_G → Option (Prod UInt64 mo_G)} {bk : Int32 → UInt64 → UInt64 → Int32 → Int32 → mo_G → Option (Prod UInt64 mo_G)} (hK : (∀ (x1 : Int32) (x2 : UInt64) (x4 : UInt64) (x6 : Int32) (g : mo_G), K x1 x2 x4 x6 g = some r → mj_W M_Mo_spread (mj_q (some (.double r.1)) (mo_up h r.2)) (2, 50, none) 0 0 153 [some (.ref 27), some (.int x1), some (.double x2), none, some (.double x4), none, some (.int x6), none, none, none, none, none] [] (mo_up h g))) (hbk : (∀ (x1 : Int32) (x2 : UInt64) (x4 : UInt64) (x6 : Int32) (x7 : Int32) (g : mo_G), bk x1 x2 x4 x6 x7 g = some r → mj_W M_Mo_spread (mj_q (some (.double r.1)) (mo_up h r.2)) (2, 50, none) 0 0 70 [some (.ref 27), some (.int x1), some (.double x2), none, some (.double x4), none, some (.int x6), some (.int x7), none, none, none, none] [] (mo_up h g))) {x1 : Int32} {x2 : UInt64} {x4 : UInt64} {x6 : Int32} {x7 : Int32} {g : mo_G} (hk : j_spread_139 K bk x1 x2 x4 x6 x7 g = some r) : mj_W M_Mo_spread (mj_q (some (.double r.1)) (mo_up h r.2)) (2, 50, none) 0 0 139 [some (.ref 27), some (.int x1), some (.double x2), none, some (.double x4), none, some (.int x6), some (.int x7), none, none, none, none] [] (mo_up h g) := by
  unfold j_spread_139 at hk
  refine mj_iload d_Mo_spread_139 rfl ?_
  refine mj_aload_n d_Mo_spread_141 rfl ?_
  refine mj_get ok_Mo (k := 8) (v := .ref 30) (by decide) fl_Mo_29 d_Mo_spread_142 (mo_h hl) rfl ?_
  refine mj_iload_n d_Mo_spread_145 rfl ?_
  have q5 := og_1 hk
  replace hk := og_2 hk
  refine mj_iald (f := (g.2 2)) d_Mo_spread_146 (mo_a2 hl) q5 ?_
  refine mj_iadd d_Mo_spread_147 ?_
  refine mj_istore (L' := [some (.ref 27), some (.int x1), some (.double x2), none, some (.double x4), none, some (.int x6), some (.int (x7 + (((g.2 2) (x1 : Int32).toNatClampNeg)))), none, none, none, none]) d_Mo_spread_148 (by decide) rfl rfl ?_
  refine mj_goto (tgt := 70) d_Mo_spread_150 (by decide) ?_
  exact hbk _ _ _ _ _ _ hk
noncomputable def j_spread_125 (K : Int32 → UInt64 → UInt64 → Int32 → mo_G → Option (Prod UInt64 mo_G)) (bk : Int32 → UInt64 → UInt64 → Int32 → Int32 → mo_G → Option (Prod UInt64 mo_G)) (x1 : Int32) (x2 : UInt64) (x4 : UInt64) (x6 : Int32) (x7 : Int32) (s0 : UInt64) (g : mo_G) : Option (Prod UInt64 mo_G) := if ((Op.cmpValue (FP.dcmp s0 x4) .l)) ≤ 0 then (j_spread_139 K bk x1 x2 x4 x6 x7 g) else (j_spread_139 K bk x1 x2 s0 x6 x7 g)
set_option maxRecDepth 100000 in
set_option maxHeartbeats 4000000 in
theorem tj_spread_125 {h : mj_H} {r : (Prod UInt64 mo_G)} (hl : 39 < h.length) {K : Int32 → UInt64 → UInt64 → Int32 → mo_G → Option (Prod UInt64 mo_G)} {bk : Int32 → UInt64 → UInt64 → Int32 → Int32 → mo_G → Option (Prod UInt64 mo_G)} (hK : (∀ (x1 : Int32) (x2 : UInt64) (x4 : UInt64) (x6 : Int32) (g : mo_G), K x1 x2 x4 x6 g = some r → mj_W M_Mo_spread (mj_q (some (.double r.1)) (mo_up h r.2)) (2, 50, none) 0 0 153 [some (.ref 27), some (.int x1), some (.double x2), none, some (.double x4), none, some (.int x6), none, none, none, none, none] [] (mo_up h g))) (hbk : (∀ (x1 : Int32) (x2 : UInt64) (x4 : UInt64) (x6 : Int32) (x7 : Int32) (g : mo_G), bk x1 x2 x4 x6 x7 g = some r → mj_W M_Mo_spread (mj_q (some (.double r.1)) (mo_up h r.2)) (2, 50, none) 0 0 70 [some (.ref 27), some (.int x1), some (.double x2), none, some (.double x4), none, some (.int x6), some (.int x7), none, none, none, none] [] (mo_up h g))) {x1 : Int32} {x2 : UInt64} {x4 : UInt64} {x6 : Int32} {x7 : Int32} {s0 : UInt64} {g : mo_G} (hk : j_spread_125 K bk x1 x2 x4 x6 x7 s0 g = some r) : mj_W M_Mo_spread (mj_q (some (.double r.1)) (mo_up h r.2)) (2, 50, none) 0 0 125 [some (.ref 27), some (.int x1), some (.double x2), none, some (.double x4), none, some (.int x6), some (.int x7), none, none, none, none] [.double s0] (mo_up h g) := by
  unfold j_spread_125 at hk
  refine mj_dstore (L' := [some (.ref 27), some (.int x1), some (.double x2), none, some (.double x4), none, some (.int x6), some (.int x7), none, none, some (.double s0), none]) d_Mo_spread_125 (by decide) rfl rfl ?_
  refine mj_dload d_Mo_spread_127 rfl ?_
  refine mj_dload d_Mo_spread_129 rfl ?_
  refine mj_dcmp d_Mo_spread_131 ?_
  refine mj_if_le (tgt := 139) d_Mo_spread_132 (by decide) (fun c_132 => ?_) (fun c_132 => ?_)
  · replace hk := og_pos c_132 hk
    refine mj_fg 10 (L' := [some (.ref 27), some (.int x1), some (.double x2), none, some (.double x4), none, some (.int x6), some (.int x7), none, none, none, none]) rfl ?_
    exact tj_spread_139 hl hK hbk hk
  · replace hk := og_neg c_132 hk
    refine mj_dload d_Mo_spread_135 rfl ?_
    refine mj_dstore (L' := [some (.ref 27), some (.int x1), some (.double x2), none, some (.double s0), none, some (.int x6), some (.int x7), none, none, some (.double s0), none]) d_Mo_spread_137 (by decide) rfl rfl ?_
    refine mj_fg 10 (L' := [some (.ref 27), some (.int x1), some (.double x2), none, some (.double s0), none, some (.int x6), some (.int x7), none, none, none, none]) rfl ?_
    exact tj_spread_139 hl hK hbk hk
noncomputable def l_spread_70 (K : Int32 → UInt64 → UInt64 → Int32 → mo_G → Option (Prod UInt64 mo_G)) : Nat → Int32 → UInt64 → UInt64 → Int32 → Int32 → mo_G → Option (Prod UInt64 mo_G)
  | 0, _, _, _, _, _, _ => none
  | n + 1, x1, x2, x4, x6, x7, g => if (g.1 0) ≤ x7 then (K x1 x2 x4 x6 g) else (og (vp_in (x1 : Int32) 3) (og (vp_in (((((64 * x1) + (8 * x6))) + x7) : Int32) 192) ((r_told (((g.2 1) (x1 : Int32).toNatClampNeg)) (((g.2 3) (((((64 * x1) + (8 * x6))) + x7) : Int32).toNatClampNeg))).bind (fun z3 => og (vf_n64 (FP.dsub z3 x2)) (if 0 ≤ ((Op.cmpValue (FP.dcmp (FP.dsub z3 x2) FP.dconst0) .g)) then (j_spread_125 K (fun x1 x2 x4 x6 x7 g => l_spread_70 K n x1 x2 x4 x6 x7 g) x1 x2 x4 x6 x7 (FP.dsub z3 x2) g) else (j_spread_125 K (fun x1 x2 x4 x6 x7 g => l_spread_70 K n x1 x2 x4 x6 x7 g) x1 x2 x4 x6 x7 ((FP.dneg (FP.dsub z3 x2))) g))))))
set_option maxRecDepth 100000 in
set_option maxHeartbeats 4000000 in
theorem tl_spread_70 {h : mj_H} {r : (Prod UInt64 mo_G)} (hl : 39 < h.length) {K : Int32 → UInt64 → UInt64 → Int32 → mo_G → Option (Prod UInt64 mo_G)} (hK : (∀ (x1 : Int32) (x2 : UInt64) (x4 : UInt64) (x6 : Int32) (g : mo_G), K x1 x2 x4 x6 g = some r → mj_W M_Mo_spread (mj_q (some (.double r.1)) (mo_up h r.2)) (2, 50, none) 0 0 153 [some (.ref 27), some (.int x1), some (.double x2), none, some (.double x4), none, some (.int x6), none, none, none, none, none] [] (mo_up h g))) : ∀ (n : Nat) (x1 : Int32) (x2 : UInt64) (x4 : UInt64) (x6 : Int32) (x7 : Int32) (g : mo_G), l_spread_70 K n x1 x2 x4 x6 x7 g = some r → mj_W M_Mo_spread (mj_q (some (.double r.1)) (mo_up h r.2)) (2, 50, none) 0 0 70 [some (.ref 27), some (.int x1), some (.double x2), none, some (.double x4), none, some (.int x6), some (.int x7), none, none, none, none] [] (mo_up h g) := by
  intro n
  induction n with
  | zero =>
    intro x1 x2 x4 x6 x7 g hk
    cases hk
  | succ n hbk =>
    intro x1 x2 x4 x6 x7 g hk
    rw [l_spread_70] at hk
    refine mj_iload d_Mo_spread_70 rfl ?_
    refine mj_aload_n d_Mo_spread_72 rfl ?_
    refine mj_get ok_Mo (k := 0) (v := .int (g.1 0)) (by decide) fl_Mo_7 d_Mo_spread_73 (mo_h hl) rfl ?_
    refine mj_icmp_ge (tgt := 153) d_Mo_spread_76 (by decide) (fun c_76 => ?_) (fun c_76 => ?_)
    · replace hk := og_pos c_76 hk
      refine mj_fg 7 (L' := [some (.ref 27), some (.int x1), some (.double x2), none, some (.double x4), none, some (.int x6), none, none, none, none, none]) rfl ?_
      exact hK _ _ _ _ _ hk
    · replace hk := og_neg c_76 hk
      refine mj_aload_n d_Mo_spread_79 rfl ?_
      refine mj_get ok_Mo (k := 7) (v := .ref 29) (by decide) fl_Mo_26 d_Mo_spread_80 (mo_h hl) rfl ?_
      refine mj_iload_n d_Mo_spread_83 rfl ?_
      have q1 := og_1 hk
      replace hk := og_2 hk
      refine mj_iald (f := (g.2 1)) d_Mo_spread_84 (mo_a1 hl) q1 ?_
      refine mj_aload_n d_Mo_spread_85 rfl ?_
      refine mj_get ok_Mo (k := 9) (v := .ref 31) (by decide) fl_Mo_32 d_Mo_spread_86 (mo_h hl) rfl ?_
      refine mj_bipush (v := 64) d_Mo_spread_89 (by decide) ?_
      refine mj_iload_n d_Mo_spread_91 rfl ?_
      refine mj_imul d_Mo_spread_92 ?_
      refine mj_bipush (v := 8) d_Mo_spread_93 (by decide) ?_
      refine mj_iload d_Mo_spread_95 rfl ?_
      refine mj_imul d_Mo_spread_97 ?_
      refine mj_iadd d_Mo_spread_98 ?_
      refine mj_iload d_Mo_spread_99 rfl ?_
      refine mj_iadd d_Mo_spread_101 ?_
      have q2 := og_1 hk
      replace hk := og_2 hk
      refine mj_iald (f := (g.2 3)) d_Mo_spread_102 (mo_a3 hl) q2 ?_
      obtain ⟨z3, hz3, hk⟩ := og_b hk
      refine mj_cS (S := []) (S1 := [.double z3]) (tm_told hz3) d_Mo_spread_103 cw_Mo_told ml_Mo_106 st_Mo_told (by decide) rfl (Nat.le_of_ble_eq_true rfl) rfl rfl ?_
      refine mj_dload_n d_Mo_spread_106 rfl ?_
      have q4 := og_1 hk
      replace hk := og_2 hk
      refine mj_dsub d_Mo_spread_107 q4 ?_
      refine mj_dstore (L' := [some (.ref 27), some (.int x1), some (.double x2), none, some (.double x4), none, some (.int x6), some (.int x7), some (.double (FP.dsub z3 x2)), none, none, none]) d_Mo_spread_108 (by decide) rfl rfl ?_
      refine mj_dload d_Mo_spread_110 rfl ?_
      refine mj_dconst0 d_Mo_spread_112 ?_
      refine mj_dcmp d_Mo_spread_113 ?_
      refine mj_if_ge (tgt := 123) d_Mo_spread_114 (by decide) (fun c_114 => ?_) (fun c_114 => ?_)
      · replace hk := og_pos c_114 hk
        refine mj_dload d_Mo_spread_123 rfl ?_
        refine mj_fg 8 (L' := [some (.ref 27), some (.int x1), some (.double x2), none, some (.double x4), none, some (.int x6), some (.int x7), none, none, none, none]) rfl ?_
        exact tj_spread_125 hl hK hbk hk
      · replace hk := og_neg c_114 hk
        refine mj_dload d_Mo_spread_117 rfl ?_
        refine mj_dneg d_Mo_spread_119 ?_
        refine mj_goto (tgt := 125) d_Mo_spread_120 (by decide) ?_
        refine mj_fg 8 (L' := [some (.ref 27), some (.int x1), some (.double x2), none, some (.double x4), none, some (.int x6), some (.int x7), none, none, none, none]) rfl ?_
        exact tj_spread_125 hl hK hbk hk
noncomputable def l_spread_58 (K : UInt64 → mo_G → Option (Prod UInt64 mo_G)) : Nat → Int32 → UInt64 → UInt64 → Int32 → mo_G → Option (Prod UInt64 mo_G)
  | 0, _, _, _, _, _ => none
  | n + 1, x1, x2, x4, x6, g => if (g.1 1) ≤ x6 then (K x4 g) else (l_spread_70 (fun y7 y8 y9 y10 g6 => og (vp_in (y7 : Int32) 3) ((fun x1 x2 x4 x6 g => l_spread_58 K n x1 x2 x4 x6 g) y7 y8 y9 ((y10 + (((g6.2 2) (y7 : Int32).toNatClampNeg)))) g6)) 2000 x1 x2 x4 x6 0 g)
set_option maxRecDepth 100000 in
set_option maxHeartbeats 4000000 in
theorem tl_spread_58 {h : mj_H} {r : (Prod UInt64 mo_G)} (hl : 39 < h.length) {K : UInt64 → mo_G → Option (Prod UInt64 mo_G)} (hK : (∀ (x4 : UInt64) (g : mo_G), K x4 g = some r → mj_W M_Mo_spread (mj_q (some (.double r.1)) (mo_up h r.2)) (2, 50, none) 0 0 167 [some (.ref 27), none, none, none, some (.double x4), none, none, none, none, none, none, none] [] (mo_up h g))) : ∀ (n : Nat) (x1 : Int32) (x2 : UInt64) (x4 : UInt64) (x6 : Int32) (g : mo_G), l_spread_58 K n x1 x2 x4 x6 g = some r → mj_W M_Mo_spread (mj_q (some (.double r.1)) (mo_up h r.2)) (2, 50, none) 0 0 58 [some (.ref 27), some (.int x1), some (.double x2), none, some (.double x4), none, some (.int x6), none, none, none, none, none] [] (mo_up h g) := by
  intro n
  induction n with
  | zero =>
    intro x1 x2 x4 x6 g hk
    cases hk
  | succ n hbk =>
    intro x1 x2 x4 x6 g hk
    rw [l_spread_58] at hk
    refine mj_iload d_Mo_spread_58 rfl ?_
    refine mj_aload_n d_Mo_spread_60 rfl ?_
    refine mj_get ok_Mo (k := 1) (v := .int (g.1 1)) (by decide) fl_Mo_13 d_Mo_spread_61 (mo_h hl) rfl ?_
    refine mj_icmp_ge (tgt := 167) d_Mo_spread_64 (by decide) (fun c_64 => ?_) (fun c_64 => ?_)
    · replace hk := og_pos c_64 hk
      refine mj_fg 1 (L' := [some (.ref 27), none, some (.double x2), none, some (.double x4), none, some (.int x6), none, none, none, none, none]) rfl ?_
      refine mj_fg 2 (L' := [some (.ref 27), none, none, none, some (.double x4), none, some (.int x6), none, none, none, none, none]) rfl ?_
      refine mj_fg 6 (L' := [some (.ref 27), none, none, none, some (.double x4), none, none, none, none, none, none, none]) rfl ?_
      exact hK _ _ hk
    · replace hk := og_neg c_64 hk
      refine mj_iconst (v := 0) d_Mo_spread_67 (by decide) ?_
      refine mj_istore (L' := [some (.ref 27), some (.int x1), some (.double x2), none, some (.double x4), none, some (.int x6), some (.int 0), none, none, none, none]) d_Mo_spread_68 (by decide) rfl rfl ?_
      refine tl_spread_70 hl ?_ 2000 _ _ _ _ _ _ hk
      intro y7 y8 y9 y10 g6 hk
      refine mj_iload d_Mo_spread_153 rfl ?_
      refine mj_aload_n d_Mo_spread_155 rfl ?_
      refine mj_get ok_Mo (k := 8) (v := .ref 30) (by decide) fl_Mo_29 d_Mo_spread_156 (mo_h hl) rfl ?_
      refine mj_iload_n d_Mo_spread_159 rfl ?_
      have q11 := og_1 hk
      replace hk := og_2 hk
      refine mj_iald (f := (g6.2 2)) d_Mo_spread_160 (mo_a2 hl) q11 ?_
      refine mj_iadd d_Mo_spread_161 ?_
      refine mj_istore (L' := [some (.ref 27), some (.int y7), some (.double y8), none, some (.double y9), none, some (.int (y10 + (((g6.2 2) (y7 : Int32).toNatClampNeg)))), none, none, none, none, none]) d_Mo_spread_162 (by decide) rfl rfl ?_
      refine mj_goto (tgt := 58) d_Mo_spread_164 (by decide) ?_
      exact hbk _ _ _ _ _ hk
noncomputable def j_spread_40 (x1 : Int32) (x2 : UInt64) (s0 : Int32) (g : mo_G) : Option (Prod UInt64 mo_G) := if s0 ≤ 0 then (l_spread_58 (fun y13 g12 => some (y13, g12)) 2000 x1 x2 FP.dconst0 0 (upd g.1 5 s0, g.2)) else (some (FP.dconst0, (upd g.1 5 s0, g.2)))
set_option maxRecDepth 100000 in
set_option maxHeartbeats 4000000 in
theorem tj_spread_40 {h : mj_H} {r : (Prod UInt64 mo_G)} (hl : 39 < h.length) {x1 : Int32} {x2 : UInt64} {s0 : Int32} {g : mo_G} (hk : j_spread_40 x1 x2 s0 g = some r) : mj_W M_Mo_spread (mj_q (some (.double r.1)) (mo_up h r.2)) (2, 50, none) 0 0 40 [some (.ref 27), some (.int x1), some (.double x2), none, none, none, none, none, none, none, none, none] [.int s0, .ref 27] (mo_up h g) := by
  unfold j_spread_40 at hk
  refine mj_put ok_Mo (k := 5) (by decide) fl_Mo_59 rfl (fun _ => rfl) (fun _ => rfl) (Nat.le_of_ble_eq_true rfl) d_Mo_spread_40 (mo_h hl) ?_
  refine mj_hp (h1 := mo_up h (upd g.1 5 s0, g.2)) (mo_p5 (g := g) hl s0) ?_
  refine mj_aload_n d_Mo_spread_43 rfl ?_
  refine mj_get ok_Mo (k := 5) (v := .int s0) (by decide) fl_Mo_59 d_Mo_spread_44 (mo_h hl) rfl ?_
  refine mj_if_le (tgt := 52) d_Mo_spread_47 (by decide) (fun c_47 => ?_) (fun c_47 => ?_)
  · replace hk := og_pos c_47 hk
    refine mj_dconst0 d_Mo_spread_52 ?_
    refine mj_dstore (L' := [some (.ref 27), some (.int x1), some (.double x2), none, some (.double FP.dconst0), none, none, none, none, none, none, none]) d_Mo_spread_53 (by decide) rfl rfl ?_
    refine mj_iconst (v := 0) d_Mo_spread_55 (by decide) ?_
    refine mj_istore (L' := [some (.ref 27), some (.int x1), some (.double x2), none, some (.double FP.dconst0), none, some (.int 0), none, none, none, none, none]) d_Mo_spread_56 (by decide) rfl rfl ?_
    refine tl_spread_58 hl ?_ 2000 _ _ _ _ _ hk
    intro y13 g12 hk
    refine mj_dload d_Mo_spread_167 rfl ?_
    cases hk
    exact mj_dret rfl d_Mo_spread_169 ⟨rfl, rfl⟩
  · replace hk := og_neg c_47 hk
    refine mj_dconst0 d_Mo_spread_50 ?_
    cases hk
    exact mj_dret rfl d_Mo_spread_51 ⟨rfl, rfl⟩
noncomputable def j_spread_17 (x1 : Int32) (x2 : UInt64) (g : mo_G) : Option (Prod UInt64 mo_G) := j_spread_40 x1 x2 1 g
set_option maxRecDepth 100000 in
set_option maxHeartbeats 4000000 in
theorem tj_spread_17 {h : mj_H} {r : (Prod UInt64 mo_G)} (hl : 39 < h.length) {x1 : Int32} {x2 : UInt64} {g : mo_G} (hk : j_spread_17 x1 x2 g = some r) : mj_W M_Mo_spread (mj_q (some (.double r.1)) (mo_up h r.2)) (2, 50, none) 0 0 17 [some (.ref 27), some (.int x1), some (.double x2), none, none, none, none, none, none, none, none, none] [.ref 27] (mo_up h g) := by
  unfold j_spread_17 at hk
  refine mj_iconst (v := 1) d_Mo_spread_17 (by decide) ?_
  refine mj_goto (tgt := 40) d_Mo_spread_18 (by decide) ?_
  exact tj_spread_40 hl hk
noncomputable def r_spread (x1 : Int32) (x2 : UInt64) (g : mo_G) : Option (Prod UInt64 mo_G) := if 0 < ((Op.cmpValue (FP.dcmp x2 5055640609639927018) .g)) then (j_spread_17 x1 x2 g) else (if 0 ≤ ((Op.cmpValue (FP.dcmp x2 14279012646494702826) .l)) then ((r_in x1 0 (((g.1 2) - 1))).bind (fun z14 => if z14 = 0 then (j_spread_40 x1 x2 2 g) else (j_spread_40 x1 x2 0 g))) else (j_spread_17 x1 x2 g))
set_option maxRecDepth 100000 in
set_option maxHeartbeats 4000000 in
theorem tm_spread {h : mj_H} {r : (Prod UInt64 mo_G)} (hl : 39 < h.length) {x1 : Int32} {x2 : UInt64} {g : mo_G} (hk : r_spread x1 x2 g = some r) : mj_Met M_Mo_spread (2, 50, none) 0 0 [.ref 27, .int x1, .double x2] (mo_up h g) (mj_q (some (.double r.1)) (mo_up h r.2)) := by
  unfold r_spread at hk
  refine mj_enter (r := 8) rfl rfl (by decide) rfl ?_
  show mj_W M_Mo_spread _ _ _ _ 0 [some (.ref 27), some (.int x1), some (.double x2), none, none, none, none, none, none, none, none, none] [] (mo_up h g)
  refine mj_aload_n d_Mo_spread_0 rfl ?_
  refine mj_dload_n d_Mo_spread_1 rfl ?_
  refine mj_ldc2d d_Mo_spread_2 kd_Mo_98 ?_
  refine mj_dcmp d_Mo_spread_5 ?_
  refine mj_if_gt (tgt := 17) d_Mo_spread_6 (by decide) (fun c_6 => ?_) (fun c_6 => ?_)
  · replace hk := og_pos c_6 hk
    exact tj_spread_17 hl hk
  · replace hk := og_neg c_6 hk
    refine mj_dload_n d_Mo_spread_9 rfl ?_
    refine mj_ldc2d d_Mo_spread_10 kd_Mo_100 ?_
    refine mj_dcmp d_Mo_spread_13 ?_
    refine mj_if_ge (tgt := 21) d_Mo_spread_14 (by decide) (fun c_14 => ?_) (fun c_14 => ?_)
    · replace hk := og_pos c_14 hk
      refine mj_iload_n d_Mo_spread_21 rfl ?_
      refine mj_iconst (v := 0) d_Mo_spread_22 (by decide) ?_
      refine mj_aload_n d_Mo_spread_23 rfl ?_
      refine mj_get ok_Mo (k := 2) (v := .int (g.1 2)) (by decide) fl_Mo_16 d_Mo_spread_24 (mo_h hl) rfl ?_
      refine mj_iconst (v := 1) d_Mo_spread_27 (by decide) ?_
      refine mj_isub d_Mo_spread_28 ?_
      obtain ⟨z14, hz14, hk⟩ := og_b hk
      refine mj_cS (S := [.ref 27]) (S1 := [.int z14, .ref 27]) (tm_in hz14) d_Mo_spread_29 cw_Mo_in ml_Mo_87 st_Mo_in (by decide) rfl (Nat.le_of_ble_eq_true rfl) rfl rfl ?_
      refine mj_if_ne (tgt := 39) d_Mo_spread_32 (by decide) (fun c_32 => ?_) (fun c_32 => ?_)
      · replace hk := og_neg c_32 hk
        refine mj_iconst (v := 0) d_Mo_spread_39 (by decide) ?_
        exact tj_spread_40 hl hk
      · replace hk := og_pos c_32 hk
        refine mj_iconst (v := 2) d_Mo_spread_35 (by decide) ?_
        refine mj_goto (tgt := 40) d_Mo_spread_36 (by decide) ?_
        exact tj_spread_40 hl hk
    · replace hk := og_neg c_14 hk
      exact tj_spread_17 hl hk
noncomputable def r_write (x1 : Int32) (g : mo_G) : Option mo_G := og (vp_in ((g.1 3) : Int32) 1500) (some (upd g.1 3 (((g.1 3) + 1)), mo_uA g.2 4 (upd (g.2 4) ((g.1 3) : Int32).toNatClampNeg x1)))
set_option maxRecDepth 100000 in
set_option maxHeartbeats 4000000 in
theorem tm_write {h : mj_H} {r : mo_G} (hl : 39 < h.length) {x1 : Int32} {g : mo_G} (hk : r_write x1 g = some r) : mj_Met M_Mo_write (0, 0, none) 0 0 [.ref 27, .int x1] (mo_up h g) (mj_q none (mo_up h r)) := by
  unfold r_write at hk
  refine mj_enter (r := 0) rfl rfl (by decide) rfl ?_
  show mj_W M_Mo_write _ _ _ _ 0 [some (.ref 27), some (.int x1)] [] (mo_up h g)
  refine mj_aload_n d_Mo_write_0 rfl ?_
  refine mj_get ok_Mo (k := 10) (v := .ref 32) (by decide) fl_Mo_35 d_Mo_write_1 (mo_h hl) rfl ?_
  refine mj_aload_n d_Mo_write_4 rfl ?_
  refine mj_get ok_Mo (k := 3) (v := .int (g.1 3)) (by decide) fl_Mo_158 d_Mo_write_5 (mo_h hl) rfl ?_
  refine mj_iload_n d_Mo_write_8 rfl ?_
  have q1 := og_1 hk
  replace hk := og_2 hk
  refine mj_iast (f := (g.2 4)) d_Mo_write_9 (mo_a4 hl) q1 ?_
  refine mj_hp (h1 := mo_up h (g.1, mo_uA g.2 4 (upd (g.2 4) ((g.1 3) : Int32).toNatClampNeg x1))) (mo_b4 (g := g) hl (upd (g.2 4) ((g.1 3) : Int32).toNatClampNeg x1)) ?_
  refine mj_aload_n d_Mo_write_10 rfl ?_
  refine mj_dup d_Mo_write_11 rfl ?_
  refine mj_get ok_Mo (k := 3) (v := .int (g.1 3)) (by decide) fl_Mo_158 d_Mo_write_12 (mo_h hl) rfl ?_
  refine mj_iconst (v := 1) d_Mo_write_15 (by decide) ?_
  refine mj_iadd d_Mo_write_16 ?_
  refine mj_put ok_Mo (k := 3) (by decide) fl_Mo_158 rfl (fun _ => rfl) (fun _ => rfl) (Nat.le_of_ble_eq_true rfl) d_Mo_write_17 (mo_h hl) ?_
  refine mj_hp (h1 := mo_up h (upd g.1 3 (((g.1 3) + 1)), mo_uA g.2 4 (upd (g.2 4) ((g.1 3) : Int32).toNatClampNeg x1))) (mo_p3 (g := (g.1, mo_uA g.2 4 (upd (g.2 4) ((g.1 3) : Int32).toNatClampNeg x1))) hl (((g.1 3) + 1))) ?_
  cases hk
  exact mj_vret rfl d_Mo_write_20 ⟨rfl, rfl⟩
noncomputable def r_linesOf (x0 : Int32) : Option Int32 := if 2 ≤ x0 then (some 4) else (some 1)
set_option maxRecDepth 100000 in
set_option maxHeartbeats 4000000 in
theorem tm_linesOf {h : mj_H} {r : Int32} {x0 : Int32} (hk : r_linesOf x0 = some r) : mj_Met M_Mo_linesOf (0, 0, none) 0 0 [.int x0] h (mj_q (some (.int r)) h) := by
  unfold r_linesOf at hk
  refine mj_enter (r := 0) rfl rfl (by decide) rfl ?_
  show mj_W M_Mo_linesOf _ _ _ _ 0 [some (.int x0)] [] h
  refine mj_iload_n d_Mo_linesOf_0 rfl ?_
  refine mj_iconst (v := 2) d_Mo_linesOf_1 (by decide) ?_
  refine mj_icmp_ge (tgt := 9) d_Mo_linesOf_2 (by decide) (fun c_2 => ?_) (fun c_2 => ?_)
  · replace hk := og_pos c_2 hk
    refine mj_iconst (v := 4) d_Mo_linesOf_9 (by decide) ?_
    cases hk
    exact mj_iret rfl d_Mo_linesOf_10 ⟨rfl, rfl⟩
  · replace hk := og_neg c_2 hk
    refine mj_iconst (v := 1) d_Mo_linesOf_5 (by decide) ?_
    refine mj_goto (tgt := 10) d_Mo_linesOf_6 (by decide) ?_
    cases hk
    exact mj_iret rfl d_Mo_linesOf_10 ⟨rfl, rfl⟩
noncomputable def r_least (x0 : Int32) (x1 : Int32) : Option Int32 := if x1 ≤ x0 then (some x1) else (some x0)
set_option maxRecDepth 100000 in
set_option maxHeartbeats 4000000 in
theorem tm_least {h : mj_H} {r : Int32} {x0 : Int32} {x1 : Int32} (hk : r_least x0 x1 = some r) : mj_Met M_Mo_least (0, 0, none) 0 0 [.int x0, .int x1] h (mj_q (some (.int r)) h) := by
  unfold r_least at hk
  refine mj_enter (r := 0) rfl rfl (by decide) rfl ?_
  show mj_W M_Mo_least _ _ _ _ 0 [some (.int x0), some (.int x1)] [] h
  refine mj_iload_n d_Mo_least_0 rfl ?_
  refine mj_iload_n d_Mo_least_1 rfl ?_
  refine mj_icmp_ge (tgt := 9) d_Mo_least_2 (by decide) (fun c_2 => ?_) (fun c_2 => ?_)
  · replace hk := og_pos c_2 hk
    refine mj_iload_n d_Mo_least_9 rfl ?_
    cases hk
    exact mj_iret rfl d_Mo_least_10 ⟨rfl, rfl⟩
  · replace hk := og_neg c_2 hk
    refine mj_iload_n d_Mo_least_5 rfl ?_
    refine mj_goto (tgt := 10) d_Mo_least_6 (by decide) ?_
    cases hk
    exact mj_iret rfl d_Mo_least_10 ⟨rfl, rfl⟩
noncomputable def j_cutBits_25 (s0 : Int32) : Option Int32 := some (((s0).toUInt32 >>> ((8 : Int32).toUInt32 &&& Int32.toUInt32 31)).toInt32)
set_option maxRecDepth 100000 in
set_option maxHeartbeats 4000000 in
theorem tj_cutBits_25 {h : mj_H} {r : Int32} {s0 : Int32} (hk : j_cutBits_25 s0 = some r) : mj_W M_Mo_cutBits (mj_q (some (.int r)) h) (0, 0, none) 0 0 25 [none, none] [.int s0] h := by
  unfold j_cutBits_25 at hk
  refine mj_bipush (v := 8) d_Mo_cutBits_25 (by decide) ?_
  refine mj_iushr d_Mo_cutBits_27 rfl ?_
  cases hk
  exact mj_iret rfl d_Mo_cutBits_28 ⟨rfl, rfl⟩
noncomputable def r_cutBits (x0 : Int32) : Option Int32 := if (((((x0 + 128) >>> (23 &&& 31))) &&& 255)) = 255 then (j_cutBits_25 x0) else (j_cutBits_25 (x0 + 128))
set_option maxRecDepth 100000 in
set_option maxHeartbeats 4000000 in
theorem tm_cutBits {h : mj_H} {r : Int32} {x0 : Int32} (hk : r_cutBits x0 = some r) : mj_Met M_Mo_cutBits (0, 0, none) 0 0 [.int x0] h (mj_q (some (.int r)) h) := by
  unfold r_cutBits at hk
  refine mj_enter (r := 1) rfl rfl (by decide) rfl ?_
  show mj_W M_Mo_cutBits _ _ _ _ 0 [some (.int x0), none] [] h
  refine mj_iload_n d_Mo_cutBits_0 rfl ?_
  refine mj_sipush (v := 128) d_Mo_cutBits_1 (by decide) ?_
  refine mj_iadd d_Mo_cutBits_4 ?_
  refine mj_istore_n (L' := [some (.int x0), some (.int (x0 + 128))]) d_Mo_cutBits_5 (by decide) rfl rfl ?_
  refine mj_iload_n d_Mo_cutBits_6 rfl ?_
  refine mj_bipush (v := 23) d_Mo_cutBits_7 (by decide) ?_
  refine mj_ishr d_Mo_cutBits_9 ?_
  refine mj_sipush (v := 255) d_Mo_cutBits_10 (by decide) ?_
  refine mj_iand d_Mo_cutBits_13 ?_
  refine mj_sipush (v := 255) d_Mo_cutBits_14 (by decide) ?_
  refine mj_icmp_ne (tgt := 24) d_Mo_cutBits_17 (by decide) (fun c_17 => ?_) (fun c_17 => ?_)
  · replace hk := og_neg c_17 hk
    refine mj_iload_n d_Mo_cutBits_24 rfl ?_
    refine mj_fg 0 (L' := [none, some (.int (x0 + 128))]) rfl ?_
    refine mj_fg 1 (L' := [none, none]) rfl ?_
    exact tj_cutBits_25 hk
  · replace hk := og_pos c_17 hk
    refine mj_iload_n d_Mo_cutBits_20 rfl ?_
    refine mj_goto (tgt := 25) d_Mo_cutBits_21 (by decide) ?_
    refine mj_fg 0 (L' := [none, some (.int (x0 + 128))]) rfl ?_
    refine mj_fg 1 (L' := [none, none]) rfl ?_
    exact tj_cutBits_25 hk
noncomputable def r_put (x1 : Int32) (g : mo_G) : Option mo_G := og (vp_in ((g.1 6) : Int32) 800) (some (upd g.1 6 (((g.1 6) + 1)), mo_uA g.2 9 (upd (g.2 9) ((g.1 6) : Int32).toNatClampNeg (x1 &&& 255))))
set_option maxRecDepth 100000 in
set_option maxHeartbeats 4000000 in
theorem tm_put {h : mj_H} {r : mo_G} (hl : 39 < h.length) {x1 : Int32} {g : mo_G} (hk : r_put x1 g = some r) : mj_Met M_Mo_put (0, 0, none) 0 0 [.ref 27, .int x1] (mo_up h g) (mj_q none (mo_up h r)) := by
  unfold r_put at hk
  refine mj_enter (r := 0) rfl rfl (by decide) rfl ?_
  show mj_W M_Mo_put _ _ _ _ 0 [some (.ref 27), some (.int x1)] [] (mo_up h g)
  refine mj_aload_n d_Mo_put_0 rfl ?_
  refine mj_get ok_Mo (k := 15) (v := .ref 37) (by decide) fl_Mo_50 d_Mo_put_1 (mo_h hl) rfl ?_
  refine mj_aload_n d_Mo_put_4 rfl ?_
  refine mj_get ok_Mo (k := 18) (v := .int (g.1 6)) (by decide) fl_Mo_110 d_Mo_put_5 (mo_h hl) rfl ?_
  refine mj_iload_n d_Mo_put_8 rfl ?_
  refine mj_sipush (v := 255) d_Mo_put_9 (by decide) ?_
  refine mj_iand d_Mo_put_12 ?_
  have q1 := og_1 hk
  replace hk := og_2 hk
  refine mj_iast (f := (g.2 9)) d_Mo_put_13 (mo_a9 hl) q1 ?_
  refine mj_hp (h1 := mo_up h (g.1, mo_uA g.2 9 (upd (g.2 9) ((g.1 6) : Int32).toNatClampNeg (x1 &&& 255)))) (mo_b9 (g := g) hl (upd (g.2 9) ((g.1 6) : Int32).toNatClampNeg (x1 &&& 255))) ?_
  refine mj_aload_n d_Mo_put_14 rfl ?_
  refine mj_dup d_Mo_put_15 rfl ?_
  refine mj_get ok_Mo (k := 18) (v := .int (g.1 6)) (by decide) fl_Mo_110 d_Mo_put_16 (mo_h hl) rfl ?_
  refine mj_iconst (v := 1) d_Mo_put_19 (by decide) ?_
  refine mj_iadd d_Mo_put_20 ?_
  refine mj_put ok_Mo (k := 18) (by decide) fl_Mo_110 rfl (fun _ => rfl) (fun _ => rfl) (Nat.le_of_ble_eq_true rfl) d_Mo_put_21 (mo_h hl) ?_
  refine mj_hp (h1 := mo_up h (upd g.1 6 (((g.1 6) + 1)), mo_uA g.2 9 (upd (g.2 9) ((g.1 6) : Int32).toNatClampNeg (x1 &&& 255)))) (mo_p6 (g := (g.1, mo_uA g.2 9 (upd (g.2 9) ((g.1 6) : Int32).toNatClampNeg (x1 &&& 255)))) hl (((g.1 6) + 1))) ?_
  cases hk
  exact mj_vret rfl d_Mo_put_24 ⟨rfl, rfl⟩
noncomputable def l_putMany_2 (K : mo_G → Option mo_G) : Nat → Int32 → Int32 → Int32 → mo_G → Option mo_G
  | 0, _, _, _, _ => none
  | n + 1, x1, x2, x3, g => if x2 ≤ x3 then (K g) else ((r_put ((x1 >>> ((8 * x3) &&& 31))) g).bind (fun z1 => (fun x1 x2 x3 g => l_putMany_2 K n x1 x2 x3 g) x1 x2 (x3 + 1) z1))
set_option maxRecDepth 100000 in
set_option maxHeartbeats 4000000 in
theorem tl_putMany_2 {h : mj_H} {r : mo_G} (hl : 39 < h.length) {K : mo_G → Option mo_G} (hK : (∀ (g : mo_G), K g = some r → mj_W M_Mo_putMany (mj_q none (mo_up h r)) (1, 21, none) 0 0 23 [some (.ref 27), none, none, none] [] (mo_up h g))) : ∀ (n : Nat) (x1 : Int32) (x2 : Int32) (x3 : Int32) (g : mo_G), l_putMany_2 K n x1 x2 x3 g = some r → mj_W M_Mo_putMany (mj_q none (mo_up h r)) (1, 21, none) 0 0 2 [some (.ref 27), some (.int x1), some (.int x2), some (.int x3)] [] (mo_up h g) := by
  intro n
  induction n with
  | zero =>
    intro x1 x2 x3 g hk
    cases hk
  | succ n hbk =>
    intro x1 x2 x3 g hk
    rw [l_putMany_2] at hk
    refine mj_iload_n d_Mo_putMany_2 rfl ?_
    refine mj_iload_n d_Mo_putMany_3 rfl ?_
    refine mj_icmp_ge (tgt := 23) d_Mo_putMany_4 (by decide) (fun c_4 => ?_) (fun c_4 => ?_)
    · replace hk := og_pos c_4 hk
      refine mj_fg 1 (L' := [some (.ref 27), none, some (.int x2), some (.int x3)]) rfl ?_
      refine mj_fg 2 (L' := [some (.ref 27), none, none, some (.int x3)]) rfl ?_
      refine mj_fg 3 (L' := [some (.ref 27), none, none, none]) rfl ?_
      exact hK _ hk
    · replace hk := og_neg c_4 hk
      refine mj_aload_n d_Mo_putMany_7 rfl ?_
      refine mj_iload_n d_Mo_putMany_8 rfl ?_
      refine mj_bipush (v := 8) d_Mo_putMany_9 (by decide) ?_
      refine mj_iload_n d_Mo_putMany_11 rfl ?_
      refine mj_imul d_Mo_putMany_12 ?_
      refine mj_ishr d_Mo_putMany_13 ?_
      obtain ⟨z1, hz1, hk⟩ := og_b hk
      refine mj_cV (S := []) (S1 := []) (tm_put hl hz1) d_Mo_putMany_14 cw_Mo_put ml_Mo_113 im_Mo_put se_Mo_put rfl (mo_h hl) (by decide) rfl (Nat.le_of_ble_eq_true rfl) rfl rfl ?_
      refine mj_iinc (x := x3) (v := x3 + 1) (L' := [some (.ref 27), some (.int x1), some (.int x2), some (.int (x3 + 1))]) d_Mo_putMany_17 rfl rfl (by decide) rfl rfl ?_
      refine mj_goto (tgt := 2) d_Mo_putMany_20 (by decide) ?_
      exact hbk _ _ _ _ hk
noncomputable def r_putMany (x1 : Int32) (x2 : Int32) (g : mo_G) : Option mo_G := l_putMany_2 (fun  g2 => some g2) 2000 x1 x2 0 g
set_option maxRecDepth 100000 in
set_option maxHeartbeats 4000000 in
theorem tm_putMany {h : mj_H} {r : mo_G} (hl : 39 < h.length) {x1 : Int32} {x2 : Int32} {g : mo_G} (hk : r_putMany x1 x2 g = some r) : mj_Met M_Mo_putMany (1, 21, none) 0 0 [.ref 27, .int x1, .int x2] (mo_up h g) (mj_q none (mo_up h r)) := by
  unfold r_putMany at hk
  refine mj_enter (r := 1) rfl rfl (by decide) rfl ?_
  show mj_W M_Mo_putMany _ _ _ _ 0 [some (.ref 27), some (.int x1), some (.int x2), none] [] (mo_up h g)
  refine mj_iconst (v := 0) d_Mo_putMany_0 (by decide) ?_
  refine mj_istore_n (L' := [some (.ref 27), some (.int x1), some (.int x2), some (.int 0)]) d_Mo_putMany_1 (by decide) rfl rfl ?_
  refine tl_putMany_2 hl ?_ 2000 _ _ _ _ hk
  intro  g2 hk
  cases hk
  exact mj_vret rfl d_Mo_putMany_23 ⟨rfl, rfl⟩
noncomputable def j_gather_152 (K : Int32 → Int32 → Int32 → Int32 → Int32 → mo_G → Option mo_G) (bk : Int32 → Int32 → Int32 → Int32 → Int32 → Int32 → Int32 → mo_G → Option mo_G) (x1 : Int32) (x2 : Int32) (x3 : Int32) (x4 : Int32) (x5 : Int32) (x7 : Int32) (x9 : Int32) (s0 : Int32) (s1 : Int32) (g : mo_G) : Option mo_G := (r_putMany s1 s0 g).bind (fun z5 => og (vp_in (x5 : Int32) 3) (bk x1 x2 x3 x4 x5 x9 ((x7 + (((z5.2 2) (x5 : Int32).toNatClampNeg)))) z5))
set_option maxRecDepth 100000 in
set_option maxHeartbeats 4000000 in
theorem tj_gather_152 {h : mj_H} {r : mo_G} (hl : 39 < h.length) {K : Int32 → Int32 → Int32 → Int32 → Int32 → mo_G → Option mo_G} {bk : Int32 → Int32 → Int32 → Int32 → Int32 → Int32 → Int32 → mo_G → Option mo_G} (hK : (∀ (x1 : Int32) (x2 : Int32) (x3 : Int32) (x4 : Int32) (x5 : Int32) (g : mo_G), K x1 x2 x3 x4 x5 g = some r → mj_W M_Mo_gather (mj_q none (mo_up h r)) (2, 44, none) 0 0 174 [some (.ref 27), some (.int x1), some (.int x2), some (.int x3), some (.int x4), some (.int x5), none, none, none, none] [] (mo_up h g))) (hbk : (∀ (x1 : Int32) (x2 : Int32) (x3 : Int32) (x4 : Int32) (x5 : Int32) (x6 : Int32) (x7 : Int32) (g : mo_G), bk x1 x2 x3 x4 x5 x6 x7 g = some r → mj_W M_Mo_gather (mj_q none (mo_up h r)) (2, 44, none) 0 0 50 [some (.ref 27), some (.int x1), some (.int x2), some (.int x3), some (.int x4), some (.int x5), some (.int x6), some (.int x7), none, none] [] (mo_up h g))) {x1 : Int32} {x2 : Int32} {x3 : Int32} {x4 : Int32} {x5 : Int32} {x7 : Int32} {x9 : Int32} {s0 : Int32} {s1 : Int32} {g : mo_G} (hk : j_gather_152 K bk x1 x2 x3 x4 x5 x7 x9 s0 s1 g = some r) : mj_W M_Mo_gather (mj_q none (mo_up h r)) (2, 44, none) 0 0 152 [some (.ref 27), some (.int x1), some (.int x2), some (.int x3), some (.int x4), some (.int x5), none, some (.int x7), none, some (.int x9)] [.int s0, .int s1, .ref 27] (mo_up h g) := by
  unfold j_gather_152 at hk
  obtain ⟨z5, hz5, hk⟩ := og_b hk
  refine mj_cV (S := []) (S1 := []) (tm_putMany hl hz5) d_Mo_gather_152 cw_Mo_putMany ml_Mo_120 im_Mo_putMany se_Mo_putMany rfl (mo_h hl) (by decide) rfl (Nat.le_of_ble_eq_true rfl) rfl rfl ?_
  refine mj_iload d_Mo_gather_155 rfl ?_
  refine mj_istore (L' := [some (.ref 27), some (.int x1), some (.int x2), some (.int x3), some (.int x4), some (.int x5), some (.int x9), some (.int x7), none, some (.int x9)]) d_Mo_gather_157 (by decide) rfl rfl ?_
  refine mj_iload d_Mo_gather_159 rfl ?_
  refine mj_aload_n d_Mo_gather_161 rfl ?_
  refine mj_get ok_Mo (k := 8) (v := .ref 30) (by decide) fl_Mo_29 d_Mo_gather_162 (mo_h hl) rfl ?_
  refine mj_iload d_Mo_gather_165 rfl ?_
  have q6 := og_1 hk
  replace hk := og_2 hk
  refine mj_iald (f := (z5.2 2)) d_Mo_gather_167 (mo_a2 hl) q6 ?_
  refine mj_iadd d_Mo_gather_168 ?_
  refine mj_istore (L' := [some (.ref 27), some (.int x1), some (.int x2), some (.int x3), some (.int x4), some (.int x5), some (.int x9), some (.int (x7 + (((z5.2 2) (x5 : Int32).toNatClampNeg)))), none, some (.int x9)]) d_Mo_gather_169 (by decide) rfl rfl ?_
  refine mj_goto (tgt := 50) d_Mo_gather_171 (by decide) ?_
  refine mj_fg 9 (L' := [some (.ref 27), some (.int x1), some (.int x2), some (.int x3), some (.int x4), some (.int x5), some (.int x9), some (.int (x7 + (((z5.2 2) (x5 : Int32).toNatClampNeg)))), none, none]) rfl ?_
  exact hbk _ _ _ _ _ _ _ _ hk
noncomputable def j_gather_128 (K : Int32 → Int32 → Int32 → Int32 → Int32 → mo_G → Option mo_G) (bk : Int32 → Int32 → Int32 → Int32 → Int32 → Int32 → Int32 → mo_G → Option mo_G) (x1 : Int32) (x2 : Int32) (x3 : Int32) (x4 : Int32) (x5 : Int32) (x7 : Int32) (x9 : Int32) (s0 : Int32) (g : mo_G) : Option mo_G := og (vp_in (x5 : Int32) 3) (if (((g.2 1) (x5 : Int32).toNatClampNeg)) = 1 then (if x3 ≤ 0 then (j_gather_152 K bk x1 x2 x3 x4 x5 x7 x9 4 s0 g) else (j_gather_152 K bk x1 x2 x3 x4 x5 x7 x9 3 s0 g)) else (j_gather_152 K bk x1 x2 x3 x4 x5 x7 x9 2 s0 g))
set_option maxRecDepth 100000 in
set_option maxHeartbeats 4000000 in
theorem tj_gather_128 {h : mj_H} {r : mo_G} (hl : 39 < h.length) {K : Int32 → Int32 → Int32 → Int32 → Int32 → mo_G → Option mo_G} {bk : Int32 → Int32 → Int32 → Int32 → Int32 → Int32 → Int32 → mo_G → Option mo_G} (hK : (∀ (x1 : Int32) (x2 : Int32) (x3 : Int32) (x4 : Int32) (x5 : Int32) (g : mo_G), K x1 x2 x3 x4 x5 g = some r → mj_W M_Mo_gather (mj_q none (mo_up h r)) (2, 44, none) 0 0 174 [some (.ref 27), some (.int x1), some (.int x2), some (.int x3), some (.int x4), some (.int x5), none, none, none, none] [] (mo_up h g))) (hbk : (∀ (x1 : Int32) (x2 : Int32) (x3 : Int32) (x4 : Int32) (x5 : Int32) (x6 : Int32) (x7 : Int32) (g : mo_G), bk x1 x2 x3 x4 x5 x6 x7 g = some r → mj_W M_Mo_gather (mj_q none (mo_up h r)) (2, 44, none) 0 0 50 [some (.ref 27), some (.int x1), some (.int x2), some (.int x3), some (.int x4), some (.int x5), some (.int x6), some (.int x7), none, none] [] (mo_up h g))) {x1 : Int32} {x2 : Int32} {x3 : Int32} {x4 : Int32} {x5 : Int32} {x7 : Int32} {x9 : Int32} {s0 : Int32} {g : mo_G} (hk : j_gather_128 K bk x1 x2 x3 x4 x5 x7 x9 s0 g = some r) : mj_W M_Mo_gather (mj_q none (mo_up h r)) (2, 44, none) 0 0 128 [some (.ref 27), some (.int x1), some (.int x2), some (.int x3), some (.int x4), some (.int x5), none, some (.int x7), none, some (.int x9)] [.int s0, .ref 27] (mo_up h g) := by
  unfold j_gather_128 at hk
  refine mj_aload_n d_Mo_gather_128 rfl ?_
  refine mj_get ok_Mo (k := 7) (v := .ref 29) (by decide) fl_Mo_26 d_Mo_gather_129 (mo_h hl) rfl ?_
  refine mj_iload d_Mo_gather_132 rfl ?_
  have q4 := og_1 hk
  replace hk := og_2 hk
  refine mj_iald (f := (g.2 1)) d_Mo_gather_134 (mo_a1 hl) q4 ?_
  refine mj_iconst (v := 1) d_Mo_gather_135 (by decide) ?_
  refine mj_icmp_eq (tgt := 143) d_Mo_gather_136 (by decide) (fun c_136 => ?_) (fun c_136 => ?_)
  · replace hk := og_pos c_136 hk
    refine mj_iload_n d_Mo_gather_143 rfl ?_
    refine mj_if_le (tgt := 151) d_Mo_gather_144 (by decide) (fun c_144 => ?_) (fun c_144 => ?_)
    · replace hk := og_pos c_144 hk
      refine mj_iconst (v := 4) d_Mo_gather_151 (by decide) ?_
      exact tj_gather_152 hl hK hbk hk
    · replace hk := og_neg c_144 hk
      refine mj_iconst (v := 3) d_Mo_gather_147 (by decide) ?_
      refine mj_goto (tgt := 152) d_Mo_gather_148 (by decide) ?_
      exact tj_gather_152 hl hK hbk hk
  · replace hk := og_neg c_136 hk
    refine mj_iconst (v := 2) d_Mo_gather_139 (by decide) ?_
    refine mj_goto (tgt := 152) d_Mo_gather_140 (by decide) ?_
    exact tj_gather_152 hl hK hbk hk
noncomputable def j_gather_126 (K : Int32 → Int32 → Int32 → Int32 → Int32 → mo_G → Option mo_G) (bk : Int32 → Int32 → Int32 → Int32 → Int32 → Int32 → Int32 → mo_G → Option mo_G) (x1 : Int32) (x2 : Int32) (x3 : Int32) (x4 : Int32) (x5 : Int32) (x7 : Int32) (x9 : Int32) (g : mo_G) : Option mo_G := j_gather_128 K bk x1 x2 x3 x4 x5 x7 x9 x9 g
set_option maxRecDepth 100000 in
set_option maxHeartbeats 4000000 in
theorem tj_gather_126 {h : mj_H} {r : mo_G} (hl : 39 < h.length) {K : Int32 → Int32 → Int32 → Int32 → Int32 → mo_G → Option mo_G} {bk : Int32 → Int32 → Int32 → Int32 → Int32 → Int32 → Int32 → mo_G → Option mo_G} (hK : (∀ (x1 : Int32) (x2 : Int32) (x3 : Int32) (x4 : Int32) (x5 : Int32) (g : mo_G), K x1 x2 x3 x4 x5 g = some r → mj_W M_Mo_gather (mj_q none (mo_up h r)) (2, 44, none) 0 0 174 [some (.ref 27), some (.int x1), some (.int x2), some (.int x3), some (.int x4), some (.int x5), none, none, none, none] [] (mo_up h g))) (hbk : (∀ (x1 : Int32) (x2 : Int32) (x3 : Int32) (x4 : Int32) (x5 : Int32) (x6 : Int32) (x7 : Int32) (g : mo_G), bk x1 x2 x3 x4 x5 x6 x7 g = some r → mj_W M_Mo_gather (mj_q none (mo_up h r)) (2, 44, none) 0 0 50 [some (.ref 27), some (.int x1), some (.int x2), some (.int x3), some (.int x4), some (.int x5), some (.int x6), some (.int x7), none, none] [] (mo_up h g))) {x1 : Int32} {x2 : Int32} {x3 : Int32} {x4 : Int32} {x5 : Int32} {x7 : Int32} {x9 : Int32} {g : mo_G} (hk : j_gather_126 K bk x1 x2 x3 x4 x5 x7 x9 g = some r) : mj_W M_Mo_gather (mj_q none (mo_up h r)) (2, 44, none) 0 0 126 [some (.ref 27), some (.int x1), some (.int x2), some (.int x3), some (.int x4), some (.int x5), none, some (.int x7), none, some (.int x9)] [.ref 27] (mo_up h g) := by
  unfold j_gather_126 at hk
  refine mj_iload d_Mo_gather_126 rfl ?_
  exact tj_gather_128 hl hK hbk hk
noncomputable def j_gather_105 (K : Int32 → Int32 → Int32 → Int32 → Int32 → mo_G → Option mo_G) (bk : Int32 → Int32 → Int32 → Int32 → Int32 → Int32 → Int32 → mo_G → Option mo_G) (x1 : Int32) (x2 : Int32) (x3 : Int32) (x4 : Int32) (x5 : Int32) (x6 : Int32) (x7 : Int32) (s0 : Int32) (g : mo_G) : Option mo_G := if x3 = 2 then (if x7 ≤ 0 then (j_gather_126 K bk x1 x2 x3 x4 x5 x7 s0 g) else (j_gather_128 K bk x1 x2 x3 x4 x5 x7 s0 (s0 - x6) g)) else (j_gather_126 K bk x1 x2 x3 x4 x5 x7 s0 g)
set_option maxRecDepth 100000 in
set_option maxHeartbeats 4000000 in
theorem tj_gather_105 {h : mj_H} {r : mo_G} (hl : 39 < h.length) {K : Int32 → Int32 → Int32 → Int32 → Int32 → mo_G → Option mo_G} {bk : Int32 → Int32 → Int32 → Int32 → Int32 → Int32 → Int32 → mo_G → Option mo_G} (hK : (∀ (x1 : Int32) (x2 : Int32) (x3 : Int32) (x4 : Int32) (x5 : Int32) (g : mo_G), K x1 x2 x3 x4 x5 g = some r → mj_W M_Mo_gather (mj_q none (mo_up h r)) (2, 44, none) 0 0 174 [some (.ref 27), some (.int x1), some (.int x2), some (.int x3), some (.int x4), some (.int x5), none, none, none, none] [] (mo_up h g))) (hbk : (∀ (x1 : Int32) (x2 : Int32) (x3 : Int32) (x4 : Int32) (x5 : Int32) (x6 : Int32) (x7 : Int32) (g : mo_G), bk x1 x2 x3 x4 x5 x6 x7 g = some r → mj_W M_Mo_gather (mj_q none (mo_up h r)) (2, 44, none) 0 0 50 [some (.ref 27), some (.int x1), some (.int x2), some (.int x3), some (.int x4), some (.int x5), some (.int x6), some (.int x7), none, none] [] (mo_up h g))) {x1 : Int32} {x2 : Int32} {x3 : Int32} {x4 : Int32} {x5 : Int32} {x6 : Int32} {x7 : Int32} {s0 : Int32} {g : mo_G} (hk : j_gather_105 K bk x1 x2 x3 x4 x5 x6 x7 s0 g = some r) : mj_W M_Mo_gather (mj_q none (mo_up h r)) (2, 44, none) 0 0 105 [some (.ref 27), some (.int x1), some (.int x2), some (.int x3), some (.int x4), some (.int x5), some (.int x6), some (.int x7), none, none] [.int s0] (mo_up h g) := by
  unfold j_gather_105 at hk
  refine mj_istore (L' := [some (.ref 27), some (.int x1), some (.int x2), some (.int x3), some (.int x4), some (.int x5), some (.int x6), some (.int x7), none, some (.int s0)]) d_Mo_gather_105 (by decide) rfl rfl ?_
  refine mj_aload_n d_Mo_gather_107 rfl ?_
  refine mj_iload_n d_Mo_gather_108 rfl ?_
  refine mj_iconst (v := 2) d_Mo_gather_109 (by decide) ?_
  refine mj_icmp_ne (tgt := 126) d_Mo_gather_110 (by decide) (fun c_110 => ?_) (fun c_110 => ?_)
  · replace hk := og_neg c_110 hk
    refine mj_fg 6 (L' := [some (.ref 27), some (.int x1), some (.int x2), some (.int x3), some (.int x4), some (.int x5), none, some (.int x7), none, some (.int s0)]) rfl ?_
    exact tj_gather_126 hl hK hbk hk
  · replace hk := og_pos c_110 hk
    refine mj_iload d_Mo_gather_113 rfl ?_
    refine mj_if_le (tgt := 126) d_Mo_gather_115 (by decide) (fun c_115 => ?_) (fun c_115 => ?_)
    · replace hk := og_pos c_115 hk
      refine mj_fg 6 (L' := [some (.ref 27), some (.int x1), some (.int x2), some (.int x3), some (.int x4), some (.int x5), none, some (.int x7), none, some (.int s0)]) rfl ?_
      exact tj_gather_126 hl hK hbk hk
    · replace hk := og_neg c_115 hk
      refine mj_iload d_Mo_gather_118 rfl ?_
      refine mj_iload d_Mo_gather_120 rfl ?_
      refine mj_isub d_Mo_gather_122 ?_
      refine mj_goto (tgt := 128) d_Mo_gather_123 (by decide) ?_
      refine mj_fg 6 (L' := [some (.ref 27), some (.int x1), some (.int x2), some (.int x3), some (.int x4), some (.int x5), none, some (.int x7), none, some (.int s0)]) rfl ?_
      exact tj_gather_128 hl hK hbk hk
noncomputable def j_gather_103 (K : Int32 → Int32 → Int32 → Int32 → Int32 → mo_G → Option mo_G) (bk : Int32 → Int32 → Int32 → Int32 → Int32 → Int32 → Int32 → mo_G → Option mo_G) (x1 : Int32) (x2 : Int32) (x3 : Int32) (x4 : Int32) (x5 : Int32) (x6 : Int32) (x7 : Int32) (x8 : Int32) (g : mo_G) : Option mo_G := j_gather_105 K bk x1 x2 x3 x4 x5 x6 x7 x8 g
set_option maxRecDepth 100000 in
set_option maxHeartbeats 4000000 in
theorem tj_gather_103 {h : mj_H} {r : mo_G} (hl : 39 < h.length) {K : Int32 → Int32 → Int32 → Int32 → Int32 → mo_G → Option mo_G} {bk : Int32 → Int32 → Int32 → Int32 → Int32 → Int32 → Int32 → mo_G → Option mo_G} (hK : (∀ (x1 : Int32) (x2 : Int32) (x3 : Int32) (x4 : Int32) (x5 : Int32) (g : mo_G), K x1 x2 x3 x4 x5 g = some r → mj_W M_Mo_gather (mj_q none (mo_up h r)) (2, 44, none) 0 0 174 [some (.ref 27), some (.int x1), some (.int x2), some (.int x3), some (.int x4), some (.int x5), none, none, none, none] [] (mo_up h g))) (hbk : (∀ (x1 : Int32) (x2 : Int32) (x3 : Int32) (x4 : Int32) (x5 : Int32) (x6 : Int32) (x7 : Int32) (g : mo_G), bk x1 x2 x3 x4 x5 x6 x7 g = some r → mj_W M_Mo_gather (mj_q none (mo_up h r)) (2, 44, none) 0 0 50 [some (.ref 27), some (.int x1), some (.int x2), some (.int x3), some (.int x4), some (.int x5), some (.int x6), some (.int x7), none, none] [] (mo_up h g))) {x1 : Int32} {x2 : Int32} {x3 : Int32} {x4 : Int32} {x5 : Int32} {x6 : Int32} {x7 : Int32} {x8 : Int32} {g : mo_G} (hk : j_gather_103 K bk x1 x2 x3 x4 x5 x6 x7 x8 g = some r) : mj_W M_Mo_gather (mj_q none (mo_up h r)) (2, 44, none) 0 0 103 [some (.ref 27), some (.int x1), some (.int x2), some (.int x3), some (.int x4), some (.int x5), some (.int x6), some (.int x7), some (.int x8), none] [] (mo_up h g) := by
  unfold j_gather_103 at hk
  refine mj_iload d_Mo_gather_103 rfl ?_
  refine mj_fg 8 (L' := [some (.ref 27), some (.int x1), some (.int x2), some (.int x3), some (.int x4), some (.int x5), some (.int x6), some (.int x7), none, none]) rfl ?_
  exact tj_gather_105 hl hK hbk hk
noncomputable def l_gather_50 (K : Int32 → Int32 → Int32 → Int32 → Int32 → mo_G → Option mo_G) : Nat → Int32 → Int32 → Int32 → Int32 → Int32 → Int32 → Int32 → mo_G → Option mo_G
  | 0, _, _, _, _, _, _, _, _ => none
  | n + 1, x1, x2, x3, x4, x5, x6, x7, g => if (g.1 0) ≤ x7 then (K x1 x2 x3 x4 x5 g) else (og (vp_in (((((64 * x5) + (8 * x4))) + x7) : Int32) 192) (if x3 ≤ 0 then (j_gather_103 K (fun x1 x2 x3 x4 x5 x6 x7 g => l_gather_50 K n x1 x2 x3 x4 x5 x6 x7 g) x1 x2 x3 x4 x5 x6 x7 (((g.2 3) (((((64 * x5) + (8 * x4))) + x7) : Int32).toNatClampNeg)) g) else (og (vp_in (x5 : Int32) 3) (if (((g.2 1) (x5 : Int32).toNatClampNeg)) = 1 then ((r_cutBits (((g.2 3) (((((64 * x5) + (8 * x4))) + x7) : Int32).toNatClampNeg))).bind (fun z8 => j_gather_105 K (fun x1 x2 x3 x4 x5 x6 x7 g => l_gather_50 K n x1 x2 x3 x4 x5 x6 x7 g) x1 x2 x3 x4 x5 x6 x7 z8 g)) else (j_gather_103 K (fun x1 x2 x3 x4 x5 x6 x7 g => l_gather_50 K n x1 x2 x3 x4 x5 x6 x7 g) x1 x2 x3 x4 x5 x6 x7 (((g.2 3) (((((64 * x5) + (8 * x4))) + x7) : Int32).toNatClampNeg)) g)))))
set_option maxRecDepth 100000 in
set_option maxHeartbeats 4000000 in
theorem tl_gather_50 {h : mj_H} {r : mo_G} (hl : 39 < h.length) {K : Int32 → Int32 → Int32 → Int32 → Int32 → mo_G → Option mo_G} (hK : (∀ (x1 : Int32) (x2 : Int32) (x3 : Int32) (x4 : Int32) (x5 : Int32) (g : mo_G), K x1 x2 x3 x4 x5 g = some r → mj_W M_Mo_gather (mj_q none (mo_up h r)) (2, 44, none) 0 0 174 [some (.ref 27), some (.int x1), some (.int x2), some (.int x3), some (.int x4), some (.int x5), none, none, none, none] [] (mo_up h g))) : ∀ (n : Nat) (x1 : Int32) (x2 : Int32) (x3 : Int32) (x4 : Int32) (x5 : Int32) (x6 : Int32) (x7 : Int32) (g : mo_G), l_gather_50 K n x1 x2 x3 x4 x5 x6 x7 g = some r → mj_W M_Mo_gather (mj_q none (mo_up h r)) (2, 44, none) 0 0 50 [some (.ref 27), some (.int x1), some (.int x2), some (.int x3), some (.int x4), some (.int x5), some (.int x6), some (.int x7), none, none] [] (mo_up h g) := by
  intro n
  induction n with
  | zero =>
    intro x1 x2 x3 x4 x5 x6 x7 g hk
    cases hk
  | succ n hbk =>
    intro x1 x2 x3 x4 x5 x6 x7 g hk
    rw [l_gather_50] at hk
    refine mj_iload d_Mo_gather_50 rfl ?_
    refine mj_aload_n d_Mo_gather_52 rfl ?_
    refine mj_get ok_Mo (k := 0) (v := .int (g.1 0)) (by decide) fl_Mo_7 d_Mo_gather_53 (mo_h hl) rfl ?_
    refine mj_icmp_ge (tgt := 174) d_Mo_gather_56 (by decide) (fun c_56 => ?_) (fun c_56 => ?_)
    · replace hk := og_pos c_56 hk
      refine mj_fg 6 (L' := [some (.ref 27), some (.int x1), some (.int x2), some (.int x3), some (.int x4), some (.int x5), none, some (.int x7), none, none]) rfl ?_
      refine mj_fg 7 (L' := [some (.ref 27), some (.int x1), some (.int x2), some (.int x3), some (.int x4), some (.int x5), none, none, none, none]) rfl ?_
      exact hK _ _ _ _ _ _ hk
    · replace hk := og_neg c_56 hk
      refine mj_aload_n d_Mo_gather_59 rfl ?_
      refine mj_get ok_Mo (k := 9) (v := .ref 31) (by decide) fl_Mo_32 d_Mo_gather_60 (mo_h hl) rfl ?_
      refine mj_bipush (v := 64) d_Mo_gather_63 (by decide) ?_
      refine mj_iload d_Mo_gather_65 rfl ?_
      refine mj_imul d_Mo_gather_67 ?_
      refine mj_bipush (v := 8) d_Mo_gather_68 (by decide) ?_
      refine mj_iload d_Mo_gather_70 rfl ?_
      refine mj_imul d_Mo_gather_72 ?_
      refine mj_iadd d_Mo_gather_73 ?_
      refine mj_iload d_Mo_gather_74 rfl ?_
      refine mj_iadd d_Mo_gather_76 ?_
      have q3 := og_1 hk
      replace hk := og_2 hk
      refine mj_iald (f := (g.2 3)) d_Mo_gather_77 (mo_a3 hl) q3 ?_
      refine mj_istore (L' := [some (.ref 27), some (.int x1), some (.int x2), some (.int x3), some (.int x4), some (.int x5), some (.int x6), some (.int x7), some (.int ((g.2 3) (((((64 * x5) + (8 * x4))) + x7) : Int32).toNatClampNeg)), none]) d_Mo_gather_78 (by decide) rfl rfl ?_
      refine mj_iload_n d_Mo_gather_80 rfl ?_
      refine mj_if_le (tgt := 103) d_Mo_gather_81 (by decide) (fun c_81 => ?_) (fun c_81 => ?_)
      · replace hk := og_pos c_81 hk
        exact tj_gather_103 hl hK hbk hk
      · replace hk := og_neg c_81 hk
        refine mj_aload_n d_Mo_gather_84 rfl ?_
        refine mj_get ok_Mo (k := 7) (v := .ref 29) (by decide) fl_Mo_26 d_Mo_gather_85 (mo_h hl) rfl ?_
        refine mj_iload d_Mo_gather_88 rfl ?_
        have q7 := og_1 hk
        replace hk := og_2 hk
        refine mj_iald (f := (g.2 1)) d_Mo_gather_90 (mo_a1 hl) q7 ?_
        refine mj_iconst (v := 1) d_Mo_gather_91 (by decide) ?_
        refine mj_icmp_ne (tgt := 103) d_Mo_gather_92 (by decide) (fun c_92 => ?_) (fun c_92 => ?_)
        · replace hk := og_neg c_92 hk
          exact tj_gather_103 hl hK hbk hk
        · replace hk := og_pos c_92 hk
          refine mj_iload d_Mo_gather_95 rfl ?_
          obtain ⟨z8, hz8, hk⟩ := og_b hk
          refine mj_cS (S := []) (S1 := [.int z8]) (tm_cutBits hz8) d_Mo_gather_97 cw_Mo_cutBits ml_Mo_117 st_Mo_cutBits (by decide) rfl (Nat.le_of_ble_eq_true rfl) rfl rfl ?_
          refine mj_goto (tgt := 105) d_Mo_gather_100 (by decide) ?_
          refine mj_fg 8 (L' := [some (.ref 27), some (.int x1), some (.int x2), some (.int x3), some (.int x4), some (.int x5), some (.int x6), some (.int x7), none, none]) rfl ?_
          exact tj_gather_105 hl hK hbk hk
noncomputable def j_gather_174 (K : Int32 → Int32 → Int32 → Int32 → mo_G → Option mo_G) (bk : Int32 → Int32 → Int32 → Int32 → Int32 → mo_G → Option mo_G) (x1 : Int32) (x2 : Int32) (x3 : Int32) (x4 : Int32) (x5 : Int32) (g : mo_G) : Option mo_G := bk x1 x2 x3 x4 (x5 + 1) g
set_option maxRecDepth 100000 in
set_option maxHeartbeats 4000000 in
theorem tj_gather_174 {h : mj_H} {r : mo_G} (hl : 39 < h.length) {K : Int32 → Int32 → Int32 → Int32 → mo_G → Option mo_G} {bk : Int32 → Int32 → Int32 → Int32 → Int32 → mo_G → Option mo_G} (hK : (∀ (x1 : Int32) (x2 : Int32) (x3 : Int32) (x4 : Int32) (g : mo_G), K x1 x2 x3 x4 g = some r → mj_W M_Mo_gather (mj_q none (mo_up h r)) (2, 44, none) 0 0 180 [some (.ref 27), some (.int x1), some (.int x2), some (.int x3), some (.int x4), none, none, none, none, none] [] (mo_up h g))) (hbk : (∀ (x1 : Int32) (x2 : Int32) (x3 : Int32) (x4 : Int32) (x5 : Int32) (g : mo_G), bk x1 x2 x3 x4 x5 g = some r → mj_W M_Mo_gather (mj_q none (mo_up h r)) (2, 44, none) 0 0 19 [some (.ref 27), some (.int x1), some (.int x2), some (.int x3), some (.int x4), some (.int x5), none, none, none, none] [] (mo_up h g))) {x1 : Int32} {x2 : Int32} {x3 : Int32} {x4 : Int32} {x5 : Int32} {g : mo_G} (hk : j_gather_174 K bk x1 x2 x3 x4 x5 g = some r) : mj_W M_Mo_gather (mj_q none (mo_up h r)) (2, 44, none) 0 0 174 [some (.ref 27), some (.int x1), some (.int x2), some (.int x3), some (.int x4), some (.int x5), none, none, none, none] [] (mo_up h g) := by
  unfold j_gather_174 at hk
  refine mj_iinc (x := x5) (v := x5 + 1) (L' := [some (.ref 27), some (.int x1), some (.int x2), some (.int x3), some (.int x4), some (.int (x5 + 1)), none, none, none, none]) d_Mo_gather_174 rfl rfl (by decide) rfl rfl ?_
  refine mj_goto (tgt := 19) d_Mo_gather_177 (by decide) ?_
  exact hbk _ _ _ _ _ _ hk
noncomputable def l_gather_19 (K : Int32 → Int32 → Int32 → Int32 → mo_G → Option mo_G) : Nat → Int32 → Int32 → Int32 → Int32 → Int32 → mo_G → Option mo_G
  | 0, _, _, _, _, _, _ => none
  | n + 1, x1, x2, x3, x4, x5, g => if (g.1 2) ≤ x5 then (K x1 x2 x3 x4 g) else (og (vp_in (x5 : Int32) 3) (og (¬ (((g.2 2) (x5 : Int32).toNatClampNeg)) = 0) (if ((x4 - x4 / (((g.2 2) (x5 : Int32).toNatClampNeg)) * (((g.2 2) (x5 : Int32).toNatClampNeg)))) = 0 then (l_gather_50 (fun y10 y11 y12 y13 y14 g9 => j_gather_174 K (fun x1 x2 x3 x4 x5 g => l_gather_19 K n x1 x2 x3 x4 x5 g) y10 y11 y12 y13 y14 g9) 2000 x1 x2 x3 x4 x5 0 0 g) else (j_gather_174 K (fun x1 x2 x3 x4 x5 g => l_gather_19 K n x1 x2 x3 x4 x5 g) x1 x2 x3 x4 x5 g))))
set_option maxRecDepth 100000 in
set_option maxHeartbeats 4000000 in
theorem tl_gather_19 {h : mj_H} {r : mo_G} (hl : 39 < h.length) {K : Int32 → Int32 → Int32 → Int32 → mo_G → Option mo_G} (hK : (∀ (x1 : Int32) (x2 : Int32) (x3 : Int32) (x4 : Int32) (g : mo_G), K x1 x2 x3 x4 g = some r → mj_W M_Mo_gather (mj_q none (mo_up h r)) (2, 44, none) 0 0 180 [some (.ref 27), some (.int x1), some (.int x2), some (.int x3), some (.int x4), none, none, none, none, none] [] (mo_up h g))) : ∀ (n : Nat) (x1 : Int32) (x2 : Int32) (x3 : Int32) (x4 : Int32) (x5 : Int32) (g : mo_G), l_gather_19 K n x1 x2 x3 x4 x5 g = some r → mj_W M_Mo_gather (mj_q none (mo_up h r)) (2, 44, none) 0 0 19 [some (.ref 27), some (.int x1), some (.int x2), some (.int x3), some (.int x4), some (.int x5), none, none, none, none] [] (mo_up h g) := by
  intro n
  induction n with
  | zero =>
    intro x1 x2 x3 x4 x5 g hk
    cases hk
  | succ n hbk =>
    intro x1 x2 x3 x4 x5 g hk
    rw [l_gather_19] at hk
    refine mj_iload d_Mo_gather_19 rfl ?_
    refine mj_aload_n d_Mo_gather_21 rfl ?_
    refine mj_get ok_Mo (k := 2) (v := .int (g.1 2)) (by decide) fl_Mo_16 d_Mo_gather_22 (mo_h hl) rfl ?_
    refine mj_icmp_ge (tgt := 180) d_Mo_gather_25 (by decide) (fun c_25 => ?_) (fun c_25 => ?_)
    · replace hk := og_pos c_25 hk
      refine mj_fg 5 (L' := [some (.ref 27), some (.int x1), some (.int x2), some (.int x3), some (.int x4), none, none, none, none, none]) rfl ?_
      exact hK _ _ _ _ _ hk
    · replace hk := og_neg c_25 hk
      refine mj_iload d_Mo_gather_28 rfl ?_
      refine mj_aload_n d_Mo_gather_30 rfl ?_
      refine mj_get ok_Mo (k := 8) (v := .ref 30) (by decide) fl_Mo_29 d_Mo_gather_31 (mo_h hl) rfl ?_
      refine mj_iload d_Mo_gather_34 rfl ?_
      have q1 := og_1 hk
      replace hk := og_2 hk
      refine mj_iald (f := (g.2 2)) d_Mo_gather_36 (mo_a2 hl) q1 ?_
      have q2 := og_1 hk
      replace hk := og_2 hk
      refine mj_irem d_Mo_gather_37 q2 ?_
      refine mj_if_eq (tgt := 44) d_Mo_gather_38 (by decide) (fun c_38 => ?_) (fun c_38 => ?_)
      · replace hk := og_pos c_38 hk
        refine mj_iconst (v := 0) d_Mo_gather_44 (by decide) ?_
        refine mj_istore (L' := [some (.ref 27), some (.int x1), some (.int x2), some (.int x3), some (.int x4), some (.int x5), some (.int 0), none, none, none]) d_Mo_gather_45 (by decide) rfl rfl ?_
        refine mj_iconst (v := 0) d_Mo_gather_47 (by decide) ?_
        refine mj_istore (L' := [some (.ref 27), some (.int x1), some (.int x2), some (.int x3), some (.int x4), some (.int x5), some (.int 0), some (.int 0), none, none]) d_Mo_gather_48 (by decide) rfl rfl ?_
        refine tl_gather_50 hl ?_ 2000 _ _ _ _ _ _ _ _ hk
        intro y10 y11 y12 y13 y14 g9 hk
        exact tj_gather_174 hl hK hbk hk
      · replace hk := og_neg c_38 hk
        refine mj_goto (tgt := 174) d_Mo_gather_41 (by decide) ?_
        exact tj_gather_174 hl hK hbk hk
noncomputable def l_gather_8 (K : mo_G → Option mo_G) : Nat → Int32 → Int32 → Int32 → Int32 → mo_G → Option mo_G
  | 0, _, _, _, _, _ => none
  | n + 1, x1, x2, x3, x4, g => if (x1 + x2) ≤ x4 then (K g) else (l_gather_19 (fun y16 y17 y18 y19 g15 => (fun x1 x2 x3 x4 g => l_gather_8 K n x1 x2 x3 x4 g) y16 y17 y18 (y19 + 1) g15) 2000 x1 x2 x3 x4 0 g)
set_option maxRecDepth 100000 in
set_option maxHeartbeats 4000000 in
theorem tl_gather_8 {h : mj_H} {r : mo_G} (hl : 39 < h.length) {K : mo_G → Option mo_G} (hK : (∀ (g : mo_G), K g = some r → mj_W M_Mo_gather (mj_q none (mo_up h r)) (2, 44, none) 0 0 186 [some (.ref 27), none, none, none, none, none, none, none, none, none] [] (mo_up h g))) : ∀ (n : Nat) (x1 : Int32) (x2 : Int32) (x3 : Int32) (x4 : Int32) (g : mo_G), l_gather_8 K n x1 x2 x3 x4 g = some r → mj_W M_Mo_gather (mj_q none (mo_up h r)) (2, 44, none) 0 0 8 [some (.ref 27), some (.int x1), some (.int x2), some (.int x3), some (.int x4), none, none, none, none, none] [] (mo_up h g) := by
  intro n
  induction n with
  | zero =>
    intro x1 x2 x3 x4 g hk
    cases hk
  | succ n hbk =>
    intro x1 x2 x3 x4 g hk
    rw [l_gather_8] at hk
    refine mj_iload d_Mo_gather_8 rfl ?_
    refine mj_iload_n d_Mo_gather_10 rfl ?_
    refine mj_iload_n d_Mo_gather_11 rfl ?_
    refine mj_iadd d_Mo_gather_12 ?_
    refine mj_icmp_ge (tgt := 186) d_Mo_gather_13 (by decide) (fun c_13 => ?_) (fun c_13 => ?_)
    · replace hk := og_pos c_13 hk
      refine mj_fg 1 (L' := [some (.ref 27), none, some (.int x2), some (.int x3), some (.int x4), none, none, none, none, none]) rfl ?_
      refine mj_fg 2 (L' := [some (.ref 27), none, none, some (.int x3), some (.int x4), none, none, none, none, none]) rfl ?_
      refine mj_fg 3 (L' := [some (.ref 27), none, none, none, some (.int x4), none, none, none, none, none]) rfl ?_
      refine mj_fg 4 (L' := [some (.ref 27), none, none, none, none, none, none, none, none, none]) rfl ?_
      exact hK _ hk
    · replace hk := og_neg c_13 hk
      refine mj_iconst (v := 0) d_Mo_gather_16 (by decide) ?_
      refine mj_istore (L' := [some (.ref 27), some (.int x1), some (.int x2), some (.int x3), some (.int x4), some (.int 0), none, none, none, none]) d_Mo_gather_17 (by decide) rfl rfl ?_
      refine tl_gather_19 hl ?_ 2000 _ _ _ _ _ _ hk
      intro y16 y17 y18 y19 g15 hk
      refine mj_iinc (x := y19) (v := y19 + 1) (L' := [some (.ref 27), some (.int y16), some (.int y17), some (.int y18), some (.int (y19 + 1)), none, none, none, none, none]) d_Mo_gather_180 rfl rfl (by decide) rfl rfl ?_
      refine mj_goto (tgt := 8) d_Mo_gather_183 (by decide) ?_
      exact hbk _ _ _ _ _ hk
noncomputable def r_gather (x1 : Int32) (x2 : Int32) (x3 : Int32) (g : mo_G) : Option mo_G := l_gather_8 (fun  g20 => some g20) 2000 x1 x2 x3 x1 (upd g.1 6 0, g.2)
set_option maxRecDepth 100000 in
set_option maxHeartbeats 4000000 in
theorem tm_gather {h : mj_H} {r : mo_G} (hl : 39 < h.length) {x1 : Int32} {x2 : Int32} {x3 : Int32} {g : mo_G} (hk : r_gather x1 x2 x3 g = some r) : mj_Met M_Mo_gather (2, 44, none) 0 0 [.ref 27, .int x1, .int x2, .int x3] (mo_up h g) (mj_q none (mo_up h r)) := by
  unfold r_gather at hk
  refine mj_enter (r := 6) rfl rfl (by decide) rfl ?_
  show mj_W M_Mo_gather _ _ _ _ 0 [some (.ref 27), some (.int x1), some (.int x2), some (.int x3), none, none, none, none, none, none] [] (mo_up h g)
  refine mj_aload_n d_Mo_gather_0 rfl ?_
  refine mj_iconst (v := 0) d_Mo_gather_1 (by decide) ?_
  refine mj_put ok_Mo (k := 18) (by decide) fl_Mo_110 rfl (fun _ => rfl) (fun _ => rfl) (Nat.le_of_ble_eq_true rfl) d_Mo_gather_2 (mo_h hl) ?_
  refine mj_hp (h1 := mo_up h (upd g.1 6 0, g.2)) (mo_p6 (g := g) hl 0) ?_
  refine mj_iload_n d_Mo_gather_5 rfl ?_
  refine mj_istore (L' := [some (.ref 27), some (.int x1), some (.int x2), some (.int x3), some (.int x1), none, none, none, none, none]) d_Mo_gather_6 (by decide) rfl rfl ?_
  refine tl_gather_8 hl ?_ 2000 _ _ _ _ _ hk
  intro  g20 hk
  cases hk
  exact mj_vret rfl d_Mo_gather_186 ⟨rfl, rfl⟩
