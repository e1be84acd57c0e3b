noncomputable def j_file_20 (x1 : Int32) (s0 : Int32) (g : mo_G) : Option (Prod Int32 mo_G) := if s0 ≤ 0 then (if 0 ≤ x1 then (og (vp_in (x1 : Int32) 1500) (some (((g.2 4) (x1 : Int32).toNatClampNeg), (upd g.1 5 s0, g.2)))) else (some ((g.1 3), (upd g.1 5 s0, g.2)))) else (some (0, (upd g.1 5 s0, g.2)))
set_option maxRecDepth 100000 in
set_option maxHeartbeats 4000000 in
theorem tj_file_20 {h : mj_H} {r : (Prod Int32 mo_G)} (hl : 39 < h.length) {x1 : Int32} {s0 : Int32} {g : mo_G} (hk : j_file_20 x1 s0 g = some r) : mj_W M_Mo_file (mj_q (some (.int r.1)) (mo_up h r.2)) (1, 22, none) 0 0 20 [some (.ref 27), some (.int x1)] [.int s0, .ref 27] (mo_up h g) := by
  unfold j_file_20 at hk
  refine mj_put ok_Mo (k := 5) (by decide) fl_Mo_59 rfl (fun _ => rfl) (fun _ => rfl) (Nat.le_of_ble_eq_true rfl) d_Mo_file_20 (mo_h hl) ?_
  refine mj_hp (h1 := mo_up h (upd g.1 5 s0, g.2)) (mo_p5 (g := g) hl s0) ?_
  refine mj_aload_n d_Mo_file_23 rfl ?_
  refine mj_get ok_Mo (k := 5) (v := .int s0) (by decide) fl_Mo_59 d_Mo_file_24 (mo_h hl) rfl ?_
  refine mj_if_le (tgt := 34) d_Mo_file_27 (by decide) (fun c_27 => ?_) (fun c_27 => ?_)
  · replace hk := og_pos c_27 hk
    refine mj_iload_n d_Mo_file_34 rfl ?_
    refine mj_if_ge (tgt := 45) d_Mo_file_35 (by decide) (fun c_35 => ?_) (fun c_35 => ?_)
    · replace hk := og_pos c_35 hk
      refine mj_aload_n d_Mo_file_45 rfl ?_
      refine mj_get ok_Mo (k := 10) (v := .ref 32) (by decide) fl_Mo_35 d_Mo_file_46 (mo_h hl) rfl ?_
      refine mj_iload_n d_Mo_file_49 rfl ?_
      have q2 := og_1 hk
      replace hk := og_2 hk
      refine mj_iald (f := (g.2 4)) d_Mo_file_50 (mo_a4 hl) q2 ?_
      cases hk
      exact mj_iret rfl d_Mo_file_51 ⟨rfl, rfl⟩
    · replace hk := og_neg c_35 hk
      refine mj_aload_n d_Mo_file_38 rfl ?_
      refine mj_get ok_Mo (k := 3) (v := .int (g.1 3)) (by decide) fl_Mo_158 d_Mo_file_39 (mo_h hl) rfl ?_
      refine mj_goto (tgt := 51) d_Mo_file_42 (by decide) ?_
      cases hk
      exact mj_iret rfl d_Mo_file_51 ⟨rfl, rfl⟩
  · replace hk := og_neg c_27 hk
    refine mj_iconst (v := 0) d_Mo_file_30 (by decide) ?_
    refine mj_goto (tgt := 51) d_Mo_file_31 (by decide) ?_
    cases hk
    exact mj_iret rfl d_Mo_file_51 ⟨rfl, rfl⟩
noncomputable def r_file (x1 : Int32) (g : mo_G) : Option (Prod Int32 mo_G) := (r_in x1 (-1) (((g.1 3) - 1))).bind (fun z1 => if z1 = 0 then (j_file_20 x1 1 g) else (j_file_20 x1 0 g))
set_option maxRecDepth 100000 in
set_option maxHeartbeats 4000000 in
theorem tm_file {h : mj_H} {r : (Prod Int32 mo_G)} (hl : 39 < h.length) {x1 : Int32} {g : mo_G} (hk : r_file x1 g = some r) : mj_Met M_Mo_file (1, 22, none) 0 0 [.ref 27, .int x1] (mo_up h g) (mj_q (some (.int r.1)) (mo_up h r.2)) := by
  unfold r_file at hk
  refine mj_enter (r := 0) rfl rfl (by decide) rfl ?_
  show mj_W M_Mo_file _ _ _ _ 0 [some (.ref 27), some (.int x1)] [] (mo_up h g)
  refine mj_aload_n d_Mo_file_0 rfl ?_
  refine mj_iload_n d_Mo_file_1 rfl ?_
  refine mj_iconst (v := (-1)) d_Mo_file_2 (by decide) ?_
  refine mj_aload_n d_Mo_file_3 rfl ?_
  refine mj_get ok_Mo (k := 3) (v := .int (g.1 3)) (by decide) fl_Mo_158 d_Mo_file_4 (mo_h hl) rfl ?_
  refine mj_iconst (v := 1) d_Mo_file_7 (by decide) ?_
  refine mj_isub d_Mo_file_8 ?_
  obtain ⟨z1, hz1, hk⟩ := og_b hk
  refine mj_cS (S := [.ref 27]) (S1 := [.int z1, .ref 27]) (tm_in hz1) d_Mo_file_9 cw_Mo_in ml_Mo_87 st_Mo_in (by decide) rfl (Nat.le_of_ble_eq_true rfl) rfl rfl ?_
  refine mj_if_eq (tgt := 19) d_Mo_file_12 (by decide) (fun c_12 => ?_) (fun c_12 => ?_)
  · replace hk := og_pos c_12 hk
    refine mj_iconst (v := 1) d_Mo_file_19 (by decide) ?_
    exact tj_file_20 hl hk
  · replace hk := og_neg c_12 hk
    refine mj_iconst (v := 0) d_Mo_file_15 (by decide) ?_
    refine mj_goto (tgt := 20) d_Mo_file_16 (by decide) ?_
    exact tj_file_20 hl hk
noncomputable def j_patch_36 (g : mo_G) : Option (Prod Int32 mo_G) := (r_fail 2 g).bind (fun z3 => some (z3.1, z3.2))
set_option maxRecDepth 100000 in
set_option maxHeartbeats 4000000 in
theorem tj_patch_36 {h : mj_H} {r : (Prod Int32 mo_G)} (hl : 39 < h.length) {g : mo_G} (hk : j_patch_36 g = some r) : mj_W M_Mo_patch (mj_q (some (.int r.1)) (mo_up h r.2)) (1, 22, none) 0 0 36 [some (.ref 27), none, none, none] [] (mo_up h g) := by
  unfold j_patch_36 at hk
  refine mj_aload_n d_Mo_patch_36 rfl ?_
  refine mj_iconst (v := 2) d_Mo_patch_37 (by decide) ?_
  obtain ⟨z3, hz3, hk⟩ := og_b hk
  refine mj_cV (S := []) (S1 := [.int z3.1]) (tm_fail hl hz3) d_Mo_patch_38 cw_Mo_fail ml_Mo_91 im_Mo_fail se_Mo_fail rfl (mo_h hl) (by decide) rfl (Nat.le_of_ble_eq_true rfl) rfl rfl ?_
  cases hk
  exact mj_iret rfl d_Mo_patch_41 ⟨rfl, rfl⟩
noncomputable def j_patch_91 (x3 : Int32) (g : mo_G) : Option (Prod Int32 mo_G) := some (x3, g)
set_option maxRecDepth 100000 in
set_option maxHeartbeats 4000000 in
theorem tj_patch_91 {h : mj_H} {r : (Prod Int32 mo_G)} (hl : 39 < h.length) {x3 : Int32} {g : mo_G} (hk : j_patch_91 x3 g = some r) : mj_W M_Mo_patch (mj_q (some (.int r.1)) (mo_up h r.2)) (1, 22, none) 0 0 91 [some (.ref 27), none, none, some (.int x3)] [] (mo_up h g) := by
  unfold j_patch_91 at hk
  refine mj_iload_n d_Mo_patch_91 rfl ?_
  cases hk
  exact mj_iret rfl d_Mo_patch_92 ⟨rfl, rfl⟩
noncomputable def j_patch_65 (x1 : Int32) (x2 : Int32) (s0 : Int32) (g : mo_G) : Option (Prod Int32 mo_G) := og (vp_in (x1 : Int32) 1500) (if x1 = (g.1 3) then (j_patch_91 s0 (upd g.1 3 (((g.1 3) + 1)), mo_uA g.2 4 (upd (g.2 4) (x1 : Int32).toNatClampNeg x2))) else (j_patch_91 s0 (g.1, mo_uA g.2 4 (upd (g.2 4) (x1 : Int32).toNatClampNeg x2))))
set_option maxRecDepth 100000 in
set_option maxHeartbeats 4000000 in
theorem tj_patch_65 {h : mj_H} {r : (Prod Int32 mo_G)} (hl : 39 < h.length) {x1 : Int32} {x2 : Int32} {s0 : Int32} {g : mo_G} (hk : j_patch_65 x1 x2 s0 g = some r) : mj_W M_Mo_patch (mj_q (some (.int r.1)) (mo_up h r.2)) (1, 22, none) 0 0 65 [some (.ref 27), some (.int x1), some (.int x2), none] [.int s0] (mo_up h g) := by
  unfold j_patch_65 at hk
  refine mj_istore_n (L' := [some (.ref 27), some (.int x1), some (.int x2), some (.int s0)]) d_Mo_patch_65 (by decide) rfl rfl ?_
  refine mj_aload_n d_Mo_patch_66 rfl ?_
  refine mj_get ok_Mo (k := 10) (v := .ref 32) (by decide) fl_Mo_35 d_Mo_patch_67 (mo_h hl) rfl ?_
  refine mj_iload_n d_Mo_patch_70 rfl ?_
  refine mj_iload_n d_Mo_patch_71 rfl ?_
  have q4 := og_1 hk
  replace hk := og_2 hk
  refine mj_iast (f := (g.2 4)) d_Mo_patch_72 (mo_a4 hl) q4 ?_
  refine mj_hp (h1 := mo_up h (g.1, mo_uA g.2 4 (upd (g.2 4) (x1 : Int32).toNatClampNeg x2))) (mo_b4 (g := g) hl (upd (g.2 4) (x1 : Int32).toNatClampNeg x2)) ?_
  refine mj_iload_n d_Mo_patch_73 rfl ?_
  refine mj_aload_n d_Mo_patch_74 rfl ?_
  refine mj_get ok_Mo (k := 3) (v := .int (g.1 3)) (by decide) fl_Mo_158 d_Mo_patch_75 (mo_h hl) rfl ?_
  refine mj_icmp_ne (tgt := 91) d_Mo_patch_78 (by decide) (fun c_78 => ?_) (fun c_78 => ?_)
  · replace hk := og_neg c_78 hk
    refine mj_fg 1 (L' := [some (.ref 27), none, some (.int x2), some (.int s0)]) rfl ?_
    refine mj_fg 2 (L' := [some (.ref 27), none, none, some (.int s0)]) rfl ?_
    exact tj_patch_91 hl hk
  · replace hk := og_pos c_78 hk
    refine mj_aload_n d_Mo_patch_81 rfl ?_
    refine mj_dup d_Mo_patch_82 rfl ?_
    refine mj_get ok_Mo (k := 3) (v := .int (g.1 3)) (by decide) fl_Mo_158 d_Mo_patch_83 (mo_h hl) rfl ?_
    refine mj_iconst (v := 1) d_Mo_patch_86 (by decide) ?_
    refine mj_iadd d_Mo_patch_87 ?_
    refine mj_put ok_Mo (k := 3) (by decide) fl_Mo_158 rfl (fun _ => rfl) (fun _ => rfl) (Nat.le_of_ble_eq_true rfl) d_Mo_patch_88 (mo_h hl) ?_
    refine mj_hp (h1 := mo_up h (upd g.1 3 (((g.1 3) + 1)), mo_uA g.2 4 (upd (g.2 4) (x1 : Int32).toNatClampNeg x2))) (mo_p3 (g := (g.1, mo_uA g.2 4 (upd (g.2 4) (x1 : Int32).toNatClampNeg x2))) hl (((g.1 3) + 1))) ?_
    refine mj_fg 1 (L' := [some (.ref 27), none, some (.int x2), some (.int s0)]) rfl ?_
    refine mj_fg 2 (L' := [some (.ref 27), none, none, some (.int s0)]) rfl ?_
    exact tj_patch_91 hl hk
noncomputable def r_patch (x1 : Int32) (x2 : Int32) (g : mo_G) : Option (Prod Int32 mo_G) := (r_in x2 0 255).bind (fun z1 => if z1 = 0 then ((r_fail 1 g).bind (fun z6 => some (z6.1, z6.2))) else ((r_in x1 0 (g.1 3)).bind (fun z2 => if z2 = 0 then (j_patch_36 g) else (if x1 = 1500 then (j_patch_36 g) else (if (g.1 3) ≤ x1 then (j_patch_65 x1 x2 (-1) (upd g.1 5 0, g.2)) else (og (vp_in (x1 : Int32) 1500) (j_patch_65 x1 x2 (((g.2 4) (x1 : Int32).toNatClampNeg)) (upd g.1 5 0, g.2))))))))
set_option maxRecDepth 100000 in
set_option maxHeartbeats 4000000 in
theorem tm_patch {h : mj_H} {r : (Prod Int32 mo_G)} (hl : 39 < h.length) {x1 : Int32} {x2 : Int32} {g : mo_G} (hk : r_patch x1 x2 g = some r) : mj_Met M_Mo_patch (1, 22, none) 0 0 [.ref 27, .int x1, .int x2] (mo_up h g) (mj_q (some (.int r.1)) (mo_up h r.2)) := by
  unfold r_patch at hk
  refine mj_enter (r := 1) rfl rfl (by decide) rfl ?_
  show mj_W M_Mo_patch _ _ _ _ 0 [some (.ref 27), some (.int x1), some (.int x2), none] [] (mo_up h g)
  refine mj_iload_n d_Mo_patch_0 rfl ?_
  refine mj_iconst (v := 0) d_Mo_patch_1 (by decide) ?_
  refine mj_sipush (v := 255) d_Mo_patch_2 (by decide) ?_
  obtain ⟨z1, hz1, hk⟩ := og_b hk
  refine mj_cS (S := []) (S1 := [.int z1]) (tm_in hz1) d_Mo_patch_5 cw_Mo_in ml_Mo_87 st_Mo_in (by decide) rfl (Nat.le_of_ble_eq_true rfl) rfl rfl ?_
  refine mj_if_ne (tgt := 17) d_Mo_patch_8 (by decide) (fun c_8 => ?_) (fun c_8 => ?_)
  · replace hk := og_neg c_8 hk
    refine mj_iload_n d_Mo_patch_17 rfl ?_
    refine mj_iconst (v := 0) d_Mo_patch_18 (by decide) ?_
    refine mj_aload_n d_Mo_patch_19 rfl ?_
    refine mj_get ok_Mo (k := 3) (v := .int (g.1 3)) (by decide) fl_Mo_158 d_Mo_patch_20 (mo_h hl) rfl ?_
    obtain ⟨z2, hz2, hk⟩ := og_b hk
    refine mj_cS (S := []) (S1 := [.int z2]) (tm_in hz2) d_Mo_patch_23 cw_Mo_in ml_Mo_87 st_Mo_in (by decide) rfl (Nat.le_of_ble_eq_true rfl) rfl rfl ?_
    refine mj_if_eq (tgt := 36) d_Mo_patch_26 (by decide) (fun c_26 => ?_) (fun c_26 => ?_)
    · replace hk := og_pos c_26 hk
      refine mj_fg 1 (L' := [some (.ref 27), none, some (.int x2), none]) rfl ?_
      refine mj_fg 2 (L' := [some (.ref 27), none, none, none]) rfl ?_
      exact tj_patch_36 hl hk
    · replace hk := og_neg c_26 hk
      refine mj_iload_n d_Mo_patch_29 rfl ?_
      refine mj_sipush (v := 1500) d_Mo_patch_30 (by decide) ?_
      refine mj_icmp_ne (tgt := 42) d_Mo_patch_33 (by decide) (fun c_33 => ?_) (fun c_33 => ?_)
      · replace hk := og_neg c_33 hk
        refine mj_aload_n d_Mo_patch_42 rfl ?_
        refine mj_iconst (v := 0) d_Mo_patch_43 (by decide) ?_
        refine mj_put ok_Mo (k := 5) (by decide) fl_Mo_59 rfl (fun _ => rfl) (fun _ => rfl) (Nat.le_of_ble_eq_true rfl) d_Mo_patch_44 (mo_h hl) ?_
        refine mj_hp (h1 := mo_up h (upd g.1 5 0, g.2)) (mo_p5 (g := g) hl 0) ?_
        refine mj_iload_n d_Mo_patch_47 rfl ?_
        refine mj_aload_n d_Mo_patch_48 rfl ?_
        refine mj_get ok_Mo (k := 3) (v := .int (g.1 3)) (by decide) fl_Mo_158 d_Mo_patch_49 (mo_h hl) rfl ?_
        refine mj_icmp_ge (tgt := 64) d_Mo_patch_52 (by decide) (fun c_52 => ?_) (fun c_52 => ?_)
        · replace hk := og_pos c_52 hk
          refine mj_iconst (v := (-1)) d_Mo_patch_64 (by decide) ?_
          exact tj_patch_65 hl hk
        · replace hk := og_neg c_52 hk
          refine mj_aload_n d_Mo_patch_55 rfl ?_
          refine mj_get ok_Mo (k := 10) (v := .ref 32) (by decide) fl_Mo_35 d_Mo_patch_56 (mo_h hl) rfl ?_
          refine mj_iload_n d_Mo_patch_59 rfl ?_
          have q5 := og_1 hk
          replace hk := og_2 hk
          refine mj_iald (f := (g.2 4)) d_Mo_patch_60 (mo_a4 hl) q5 ?_
          refine mj_goto (tgt := 65) d_Mo_patch_61 (by decide) ?_
          exact tj_patch_65 hl hk
      · replace hk := og_pos c_33 hk
        refine mj_fg 1 (L' := [some (.ref 27), none, some (.int x2), none]) rfl ?_
        refine mj_fg 2 (L' := [some (.ref 27), none, none, none]) rfl ?_
        exact tj_patch_36 hl hk
  · replace hk := og_pos c_8 hk
    refine mj_aload_n d_Mo_patch_11 rfl ?_
    refine mj_iconst (v := 1) d_Mo_patch_12 (by decide) ?_
    obtain ⟨z6, hz6, hk⟩ := og_b hk
    refine mj_cV (S := []) (S1 := [.int z6.1]) (tm_fail hl hz6) d_Mo_patch_13 cw_Mo_fail ml_Mo_91 im_Mo_fail se_Mo_fail rfl (mo_h hl) (by decide) rfl (Nat.le_of_ble_eq_true rfl) rfl rfl ?_
    cases hk
    exact mj_iret rfl d_Mo_patch_16 ⟨rfl, rfl⟩
noncomputable def r_cut (x1 : Int32) (g : mo_G) : Option (Prod Int32 mo_G) := (r_in x1 0 (g.1 3)).bind (fun z1 => if z1 = 0 then ((r_fail 1 g).bind (fun z2 => some (z2.1, z2.2))) else (some (((g.1 3) - x1), (upd (upd g.1 5 0) 3 x1, g.2))))
set_option maxRecDepth 100000 in
set_option maxHeartbeats 4000000 in
theorem tm_cut {h : mj_H} {r : (Prod Int32 mo_G)} (hl : 39 < h.length) {x1 : Int32} {g : mo_G} (hk : r_cut x1 g = some r) : mj_Met M_Mo_cut (1, 22, none) 0 0 [.ref 27, .int x1] (mo_up h g) (mj_q (some (.int r.1)) (mo_up h r.2)) := by
  unfold r_cut at hk
  refine mj_enter (r := 1) rfl rfl (by decide) rfl ?_
  show mj_W M_Mo_cut _ _ _ _ 0 [some (.ref 27), some (.int x1), none] [] (mo_up h g)
  refine mj_iload_n d_Mo_cut_0 rfl ?_
  refine mj_iconst (v := 0) d_Mo_cut_1 (by decide) ?_
  refine mj_aload_n d_Mo_cut_2 rfl ?_
  refine mj_get ok_Mo (k := 3) (v := .int (g.1 3)) (by decide) fl_Mo_158 d_Mo_cut_3 (mo_h hl) rfl ?_
  obtain ⟨z1, hz1, hk⟩ := og_b hk
  refine mj_cS (S := []) (S1 := [.int z1]) (tm_in hz1) d_Mo_cut_6 cw_Mo_in ml_Mo_87 st_Mo_in (by decide) rfl (Nat.le_of_ble_eq_true rfl) rfl rfl ?_
  refine mj_if_ne (tgt := 18) d_Mo_cut_9 (by decide) (fun c_9 => ?_) (fun c_9 => ?_)
  · replace hk := og_neg c_9 hk
    refine mj_aload_n d_Mo_cut_18 rfl ?_
    refine mj_iconst (v := 0) d_Mo_cut_19 (by decide) ?_
    refine mj_put ok_Mo (k := 5) (by decide) fl_Mo_59 rfl (fun _ => rfl) (fun _ => rfl) (Nat.le_of_ble_eq_true rfl) d_Mo_cut_20 (mo_h hl) ?_
    refine mj_hp (h1 := mo_up h (upd g.1 5 0, g.2)) (mo_p5 (g := g) hl 0) ?_
    refine mj_aload_n d_Mo_cut_23 rfl ?_
    refine mj_get ok_Mo (k := 3) (v := .int (g.1 3)) (by decide) fl_Mo_158 d_Mo_cut_24 (mo_h hl) rfl ?_
    refine mj_iload_n d_Mo_cut_27 rfl ?_
    refine mj_isub d_Mo_cut_28 ?_
    refine mj_istore_n (L' := [some (.ref 27), some (.int x1), some (.int ((g.1 3) - x1))]) d_Mo_cut_29 (by decide) rfl rfl ?_
    refine mj_aload_n d_Mo_cut_30 rfl ?_
    refine mj_iload_n d_Mo_cut_31 rfl ?_
    refine mj_put ok_Mo (k := 3) (by decide) fl_Mo_158 rfl (fun _ => rfl) (fun _ => rfl) (Nat.le_of_ble_eq_true rfl) d_Mo_cut_32 (mo_h hl) ?_
    refine mj_hp (h1 := mo_up h (upd (upd g.1 5 0) 3 x1, g.2)) (mo_p3 (g := (upd g.1 5 0, g.2)) hl x1) ?_
    refine mj_iload_n d_Mo_cut_35 rfl ?_
    cases hk
    exact mj_iret rfl d_Mo_cut_36 ⟨rfl, rfl⟩
  · replace hk := og_pos c_9 hk
    refine mj_aload_n d_Mo_cut_12 rfl ?_
    refine mj_iconst (v := 1) d_Mo_cut_13 (by decide) ?_
    obtain ⟨z2, hz2, hk⟩ := og_b hk
    refine mj_cV (S := []) (S1 := [.int z2.1]) (tm_fail hl hz2) d_Mo_cut_14 cw_Mo_fail ml_Mo_91 im_Mo_fail se_Mo_fail rfl (mo_h hl) (by decide) rfl (Nat.le_of_ble_eq_true rfl) rfl rfl ?_
    cases hk
    exact mj_iret rfl d_Mo_cut_17 ⟨rfl, rfl⟩
noncomputable def j_count_69 (x1 : Int32) (g : mo_G) : Option (Prod Int32 mo_G) := if 3 ≤ x1 then (if (x1 - x1 / 10 * 10) < (g.1 2) then (if 20 ≤ x1 then (if 30 ≤ x1 then (if 40 ≤ x1 then (og (vp_in ((x1 - x1 / 10 * 10) : Int32) 3) ((r_across (g.1 0) (((g.2 2) ((x1 - x1 / 10 * 10) : Int32).toNatClampNeg))).bind (fun z4 => og (vp_in ((x1 - x1 / 10 * 10) : Int32) 3) ((r_across (g.1 1) (((g.2 2) ((x1 - x1 / 10 * 10) : Int32).toNatClampNeg))).bind (fun z6 => some ((z4 * z6), (upd g.1 5 0, g.2))))))) else (og (vp_in ((x1 - x1 / 10 * 10) : Int32) 3) (some (((g.2 2) ((x1 - x1 / 10 * 10) : Int32).toNatClampNeg), (upd g.1 5 0, g.2))))) else (og (vp_in ((x1 - x1 / 10 * 10) : Int32) 3) (some (((g.2 1) ((x1 - x1 / 10 * 10) : Int32).toNatClampNeg), (upd g.1 5 0, g.2))))) else (og (vp_in ((x1 - x1 / 10 * 10) : Int32) 3) (some (((g.2 0) ((x1 - x1 / 10 * 10) : Int32).toNatClampNeg), (upd g.1 5 0, g.2))))) else (some (0, (upd g.1 5 0, g.2)))) else (if x1 = 0 then (some ((g.1 0), (upd g.1 5 0, g.2))) else (if x1 = 1 then (some ((g.1 1), (upd g.1 5 0, g.2))) else (some ((g.1 2), (upd g.1 5 0, g.2)))))
set_option maxRecDepth 100000 in
set_option maxHeartbeats 4000000 in
theorem tj_count_69 {h : mj_H} {r : (Prod Int32 mo_G)} (hl : 39 < h.length) {x1 : Int32} {g : mo_G} (hk : j_count_69 x1 g = some r) : mj_W M_Mo_count (mj_q (some (.int r.1)) (mo_up h r.2)) (1, 22, none) 0 0 69 [some (.ref 27), some (.int x1), none, none] [] (mo_up h g) := by
  unfold j_count_69 at hk
  refine mj_aload_n d_Mo_count_69 rfl ?_
  refine mj_iconst (v := 0) d_Mo_count_70 (by decide) ?_
  refine mj_put ok_Mo (k := 5) (by decide) fl_Mo_59 rfl (fun _ => rfl) (fun _ => rfl) (Nat.le_of_ble_eq_true rfl) d_Mo_count_71 (mo_h hl) ?_
  refine mj_hp (h1 := mo_up h (upd g.1 5 0, g.2)) (mo_p5 (g := g) hl 0) ?_
  refine mj_iload_n d_Mo_count_74 rfl ?_
  refine mj_iconst (v := 3) d_Mo_count_75 (by decide) ?_
  refine mj_icmp_ge (tgt := 107) d_Mo_count_76 (by decide) (fun c_76 => ?_) (fun c_76 => ?_)
  · replace hk := og_pos c_76 hk
    refine mj_iload_n d_Mo_count_107 rfl ?_
    refine mj_bipush (v := 10) d_Mo_count_108 (by decide) ?_
    refine mj_irem d_Mo_count_110 (by decide) ?_
    refine mj_istore_n (L' := [some (.ref 27), some (.int x1), none, some (.int (x1 - x1 / 10 * 10))]) d_Mo_count_111 (by decide) rfl rfl ?_
    refine mj_iload_n d_Mo_count_112 rfl ?_
    refine mj_aload_n d_Mo_count_113 rfl ?_
    refine mj_get ok_Mo (k := 2) (v := .int (g.1 2)) (by decide) fl_Mo_16 d_Mo_count_114 (mo_h hl) rfl ?_
    refine mj_icmp_lt (tgt := 122) d_Mo_count_117 (by decide) (fun c_117 => ?_) (fun c_117 => ?_)
    · replace hk := og_pos c_117 hk
      refine mj_iload_n d_Mo_count_122 rfl ?_
      refine mj_bipush (v := 20) d_Mo_count_123 (by decide) ?_
      refine mj_icmp_ge (tgt := 137) d_Mo_count_125 (by decide) (fun c_125 => ?_) (fun c_125 => ?_)
      · replace hk := og_pos c_125 hk
        refine mj_iload_n d_Mo_count_137 rfl ?_
        refine mj_bipush (v := 30) d_Mo_count_138 (by decide) ?_
        refine mj_icmp_ge (tgt := 152) d_Mo_count_140 (by decide) (fun c_140 => ?_) (fun c_140 => ?_)
        · replace hk := og_pos c_140 hk
          refine mj_iload_n d_Mo_count_152 rfl ?_
          refine mj_bipush (v := 40) d_Mo_count_153 (by decide) ?_
          refine mj_icmp_ge (tgt := 167) d_Mo_count_155 (by decide) (fun c_155 => ?_) (fun c_155 => ?_)
          · replace hk := og_pos c_155 hk
            refine mj_aload_n d_Mo_count_167 rfl ?_
            refine mj_get ok_Mo (k := 0) (v := .int (g.1 0)) (by decide) fl_Mo_7 d_Mo_count_168 (mo_h hl) rfl ?_
            refine mj_aload_n d_Mo_count_171 rfl ?_
            refine mj_get ok_Mo (k := 8) (v := .ref 30) (by decide) fl_Mo_29 d_Mo_count_172 (mo_h hl) rfl ?_
            refine mj_iload_n d_Mo_count_175 rfl ?_
            have q3 := og_1 hk
            replace hk := og_2 hk
            refine mj_iald (f := (g.2 2)) d_Mo_count_176 (mo_a2 hl) q3 ?_
            obtain ⟨z4, hz4, hk⟩ := og_b hk
            refine mj_cS (S := []) (S1 := [.int z4]) (tm_across hz4) d_Mo_count_177 cw_Mo_across ml_Mo_131 st_Mo_across (by decide) rfl (Nat.le_of_ble_eq_true rfl) rfl rfl ?_
            refine mj_aload_n d_Mo_count_180 rfl ?_
            refine mj_get ok_Mo (k := 1) (v := .int (g.1 1)) (by decide) fl_Mo_13 d_Mo_count_181 (mo_h hl) rfl ?_
            refine mj_aload_n d_Mo_count_184 rfl ?_
            refine mj_get ok_Mo (k := 8) (v := .ref 30) (by decide) fl_Mo_29 d_Mo_count_185 (mo_h hl) rfl ?_
            refine mj_iload_n d_Mo_count_188 rfl ?_
            have q5 := og_1 hk
            replace hk := og_2 hk
            refine mj_iald (f := (g.2 2)) d_Mo_count_189 (mo_a2 hl) q5 ?_
            obtain ⟨z6, hz6, hk⟩ := og_b hk
            refine mj_cS (S := [.int z4]) (S1 := [.int z6, .int z4]) (tm_across hz6) d_Mo_count_190 cw_Mo_across ml_Mo_131 st_Mo_across (by decide) rfl (Nat.le_of_ble_eq_true rfl) rfl rfl ?_
            refine mj_imul d_Mo_count_193 ?_
            cases hk
            exact mj_iret rfl d_Mo_count_194 ⟨rfl, rfl⟩
          · replace hk := og_neg c_155 hk
            refine mj_aload_n d_Mo_count_158 rfl ?_
            refine mj_get ok_Mo (k := 8) (v := .ref 30) (by decide) fl_Mo_29 d_Mo_count_159 (mo_h hl) rfl ?_
            refine mj_iload_n d_Mo_count_162 rfl ?_
            have q7 := og_1 hk
            replace hk := og_2 hk
            refine mj_iald (f := (g.2 2)) d_Mo_count_163 (mo_a2 hl) q7 ?_
            refine mj_goto (tgt := 194) d_Mo_count_164 (by decide) ?_
            cases hk
            exact mj_iret rfl d_Mo_count_194 ⟨rfl, rfl⟩
        · replace hk := og_neg c_140 hk
          refine mj_aload_n d_Mo_count_143 rfl ?_
          refine mj_get ok_Mo (k := 7) (v := .ref 29) (by decide) fl_Mo_26 d_Mo_count_144 (mo_h hl) rfl ?_
          refine mj_iload_n d_Mo_count_147 rfl ?_
          have q8 := og_1 hk
          replace hk := og_2 hk
          refine mj_iald (f := (g.2 1)) d_Mo_count_148 (mo_a1 hl) q8 ?_
          refine mj_goto (tgt := 194) d_Mo_count_149 (by decide) ?_
          cases hk
          exact mj_iret rfl d_Mo_count_194 ⟨rfl, rfl⟩
      · replace hk := og_neg c_125 hk
        refine mj_aload_n d_Mo_count_128 rfl ?_
        refine mj_get ok_Mo (k := 6) (v := .ref 28) (by decide) fl_Mo_22 d_Mo_count_129 (mo_h hl) rfl ?_
        refine mj_iload_n d_Mo_count_132 rfl ?_
        have q9 := og_1 hk
        replace hk := og_2 hk
        refine mj_iald (f := (g.2 0)) d_Mo_count_133 (mo_a0 hl) q9 ?_
        refine mj_goto (tgt := 194) d_Mo_count_134 (by decide) ?_
        cases hk
        exact mj_iret rfl d_Mo_count_194 ⟨rfl, rfl⟩
    · replace hk := og_neg c_117 hk
      refine mj_iconst (v := 0) d_Mo_count_120 (by decide) ?_
      cases hk
      exact mj_iret rfl d_Mo_count_121 ⟨rfl, rfl⟩
  · replace hk := og_neg c_76 hk
    refine mj_iload_n d_Mo_count_79 rfl ?_
    refine mj_if_ne (tgt := 90) d_Mo_count_80 (by decide) (fun c_80 => ?_) (fun c_80 => ?_)
    · replace hk := og_neg c_80 hk
      refine mj_iload_n d_Mo_count_90 rfl ?_
      refine mj_iconst (v := 1) d_Mo_count_91 (by decide) ?_
      refine mj_icmp_ne (tgt := 102) d_Mo_count_92 (by decide) (fun c_92 => ?_) (fun c_92 => ?_)
      · replace hk := og_neg c_92 hk
        refine mj_aload_n d_Mo_count_102 rfl ?_
        refine mj_get ok_Mo (k := 2) (v := .int (g.1 2)) (by decide) fl_Mo_16 d_Mo_count_103 (mo_h hl) rfl ?_
        cases hk
        exact mj_iret rfl d_Mo_count_106 ⟨rfl, rfl⟩
      · replace hk := og_pos c_92 hk
        refine mj_aload_n d_Mo_count_95 rfl ?_
        refine mj_get ok_Mo (k := 1) (v := .int (g.1 1)) (by decide) fl_Mo_13 d_Mo_count_96 (mo_h hl) rfl ?_
        refine mj_goto (tgt := 106) d_Mo_count_99 (by decide) ?_
        cases hk
        exact mj_iret rfl d_Mo_count_106 ⟨rfl, rfl⟩
    · replace hk := og_pos c_80 hk
      refine mj_aload_n d_Mo_count_83 rfl ?_
      refine mj_get ok_Mo (k := 0) (v := .int (g.1 0)) (by decide) fl_Mo_7 d_Mo_count_84 (mo_h hl) rfl ?_
      refine mj_goto (tgt := 106) d_Mo_count_87 (by decide) ?_
      cases hk
      exact mj_iret rfl d_Mo_count_106 ⟨rfl, rfl⟩
noncomputable def j_count_49 (x1 : Int32) (s0 : Int32) (g : mo_G) : Option (Prod Int32 mo_G) := (r_in x1 0 2).bind (fun z2 => if z2 = 0 then (if s0 = 0 then ((r_fail 1 g).bind (fun z10 => some (z10.1, z10.2))) else (j_count_69 x1 g)) else (j_count_69 x1 g))
set_option maxRecDepth 100000 in
set_option maxHeartbeats 4000000 in
theorem tj_count_49 {h : mj_H} {r : (Prod Int32 mo_G)} (hl : 39 < h.length) {x1 : Int32} {s0 : Int32} {g : mo_G} (hk : j_count_49 x1 s0 g = some r) : mj_W M_Mo_count (mj_q (some (.int r.1)) (mo_up h r.2)) (1, 22, none) 0 0 49 [some (.ref 27), some (.int x1), none, none] [.int s0] (mo_up h g) := by
  unfold j_count_49 at hk
  refine mj_istore_n (L' := [some (.ref 27), some (.int x1), some (.int s0), none]) d_Mo_count_49 (by decide) rfl rfl ?_
  refine mj_iload_n d_Mo_count_50 rfl ?_
  refine mj_iconst (v := 0) d_Mo_count_51 (by decide) ?_
  refine mj_iconst (v := 2) d_Mo_count_52 (by decide) ?_
  obtain ⟨z2, hz2, hk⟩ := og_b hk
  refine mj_cS (S := []) (S1 := [.int z2]) (tm_in hz2) d_Mo_count_53 cw_Mo_in ml_Mo_87 st_Mo_in (by decide) rfl (Nat.le_of_ble_eq_true rfl) rfl rfl ?_
  refine mj_if_ne (tgt := 69) d_Mo_count_56 (by decide) (fun c_56 => ?_) (fun c_56 => ?_)
  · replace hk := og_neg c_56 hk
    refine mj_fg 2 (L' := [some (.ref 27), some (.int x1), none, none]) rfl ?_
    exact tj_count_69 hl hk
  · replace hk := og_pos c_56 hk
    refine mj_iload_n d_Mo_count_59 rfl ?_
    refine mj_if_ne (tgt := 69) d_Mo_count_60 (by decide) (fun c_60 => ?_) (fun c_60 => ?_)
    · replace hk := og_neg c_60 hk
      refine mj_fg 2 (L' := [some (.ref 27), some (.int x1), none, none]) rfl ?_
      exact tj_count_69 hl hk
    · replace hk := og_pos c_60 hk
      refine mj_aload_n d_Mo_count_63 rfl ?_
      refine mj_iconst (v := 1) d_Mo_count_64 (by decide) ?_
      obtain ⟨z10, hz10, hk⟩ := og_b hk
      refine mj_cV (S := []) (S1 := [.int z10.1]) (tm_fail hl hz10) d_Mo_count_65 cw_Mo_fail ml_Mo_91 im_Mo_fail se_Mo_fail rfl (mo_h hl) (by decide) rfl (Nat.le_of_ble_eq_true rfl) rfl rfl ?_
      cases hk
      exact mj_iret rfl d_Mo_count_68 ⟨rfl, rfl⟩
noncomputable def j_count_44 (x1 : Int32) (g : mo_G) : Option (Prod Int32 mo_G) := j_count_49 x1 1 g
set_option maxRecDepth 100000 in
set_option maxHeartbeats 4000000 in
theorem tj_count_44 {h : mj_H} {r : (Prod Int32 mo_G)} (hl : 39 < h.length) {x1 : Int32} {g : mo_G} (hk : j_count_44 x1 g = some r) : mj_W M_Mo_count (mj_q (some (.int r.1)) (mo_up h r.2)) (1, 22, none) 0 0 44 [some (.ref 27), some (.int x1), none, none] [] (mo_up h g) := by
  unfold j_count_44 at hk
  refine mj_iconst (v := 1) d_Mo_count_44 (by decide) ?_
  refine mj_goto (tgt := 49) d_Mo_count_45 (by decide) ?_
  exact tj_count_49 hl hk
noncomputable def r_count (x1 : Int32) (g : mo_G) : Option (Prod Int32 mo_G) := (r_in x1 10 12).bind (fun z1 => if z1 = 0 then ((r_in x1 20 22).bind (fun z11 => if z11 = 0 then ((r_in x1 30 32).bind (fun z12 => if z12 = 0 then ((r_in x1 40 42).bind (fun z13 => if z13 = 0 then (j_count_49 x1 0 g) else (j_count_44 x1 g))) else (j_count_44 x1 g))) else (j_count_44 x1 g))) else (j_count_44 x1 g))
set_option maxRecDepth 100000 in
set_option maxHeartbeats 4000000 in
theorem tm_count {h : mj_H} {r : (Prod Int32 mo_G)} (hl : 39 < h.length) {x1 : Int32} {g : mo_G} (hk : r_count x1 g = some r) : mj_Met M_Mo_count (1, 22, none) 0 0 [.ref 27, .int x1] (mo_up h g) (mj_q (some (.int r.1)) (mo_up h r.2)) := by
  unfold r_count at hk
  refine mj_enter (r := 2) rfl rfl (by decide) rfl ?_
  show mj_W M_Mo_count _ _ _ _ 0 [some (.ref 27), some (.int x1), none, none] [] (mo_up h g)
  refine mj_iload_n d_Mo_count_0 rfl ?_
  refine mj_bipush (v := 10) d_Mo_count_1 (by decide) ?_
  refine mj_bipush (v := 12) d_Mo_count_3 (by decide) ?_
  obtain ⟨z1, hz1, hk⟩ := og_b hk
  refine mj_cS (S := []) (S1 := [.int z1]) (tm_in hz1) d_Mo_count_5 cw_Mo_in ml_Mo_87 st_Mo_in (by decide) rfl (Nat.le_of_ble_eq_true rfl) rfl rfl ?_
  refine mj_if_ne (tgt := 44) d_Mo_count_8 (by decide) (fun c_8 => ?_) (fun c_8 => ?_)
  · replace hk := og_neg c_8 hk
    exact tj_count_44 hl hk
  · replace hk := og_pos c_8 hk
    refine mj_iload_n d_Mo_count_11 rfl ?_
    refine mj_bipush (v := 20) d_Mo_count_12 (by decide) ?_
    refine mj_bipush (v := 22) d_Mo_count_14 (by decide) ?_
    obtain ⟨z11, hz11, hk⟩ := og_b hk
    refine mj_cS (S := []) (S1 := [.int z11]) (tm_in hz11) d_Mo_count_16 cw_Mo_in ml_Mo_87 st_Mo_in (by decide) rfl (Nat.le_of_ble_eq_true rfl) rfl rfl ?_
    refine mj_if_ne (tgt := 44) d_Mo_count_19 (by decide) (fun c_19 => ?_) (fun c_19 => ?_)
    · replace hk := og_neg c_19 hk
      exact tj_count_44 hl hk
    · replace hk := og_pos c_19 hk
      refine mj_iload_n d_Mo_count_22 rfl ?_
      refine mj_bipush (v := 30) d_Mo_count_23 (by decide) ?_
      refine mj_bipush (v := 32) d_Mo_count_25 (by decide) ?_
      obtain ⟨z12, hz12, hk⟩ := og_b hk
      refine mj_cS (S := []) (S1 := [.int z12]) (tm_in hz12) d_Mo_count_27 cw_Mo_in ml_Mo_87 st_Mo_in (by decide) rfl (Nat.le_of_ble_eq_true rfl) rfl rfl ?_
      refine mj_if_ne (tgt := 44) d_Mo_count_30 (by decide) (fun c_30 => ?_) (fun c_30 => ?_)
      · replace hk := og_neg c_30 hk
        exact tj_count_44 hl hk
      · replace hk := og_pos c_30 hk
        refine mj_iload_n d_Mo_count_33 rfl ?_
        refine mj_bipush (v := 40) d_Mo_count_34 (by decide) ?_
        refine mj_bipush (v := 42) d_Mo_count_36 (by decide) ?_
        obtain ⟨z13, hz13, hk⟩ := og_b hk
        refine mj_cS (S := []) (S1 := [.int z13]) (tm_in hz13) d_Mo_count_38 cw_Mo_in ml_Mo_87 st_Mo_in (by decide) rfl (Nat.le_of_ble_eq_true rfl) rfl rfl ?_
        refine mj_if_eq (tgt := 48) d_Mo_count_41 (by decide) (fun c_41 => ?_) (fun c_41 => ?_)
        · replace hk := og_pos c_41 hk
          refine mj_iconst (v := 0) d_Mo_count_48 (by decide) ?_
          exact tj_count_49 hl hk
        · replace hk := og_neg c_41 hk
          exact tj_count_44 hl hk
