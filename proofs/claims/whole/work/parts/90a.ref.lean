noncomputable def r_thrown (g : mo_G) : Option (Prod Int32 mo_G) := some ((g.1 5), g)
set_option maxRecDepth 100000 in
set_option maxHeartbeats 4000000 in
theorem tm_thrown {h : mj_H} {r : (Prod Int32 mo_G)} (hl : 39 < h.length) {g : mo_G} (hk : r_thrown g = some r) : mj_Met M_Mo_thrown (0, 0, none) 0 0 [.ref 27] (mo_up h g) (mj_q (some (.int r.1)) (mo_up h r.2)) := by
  unfold r_thrown at hk
  refine mj_enter (r := 0) rfl rfl (by decide) rfl ?_
  show mj_W M_Mo_thrown _ _ _ _ 0 [some (.ref 27)] [] (mo_up h g)
  refine mj_aload_n d_Mo_thrown_0 rfl ?_
  refine mj_get ok_Mo (k := 5) (v := .int (g.1 5)) (by decide) fl_Mo_59 d_Mo_thrown_1 (mo_h hl) rfl ?_
  cases hk
  exact mj_iret rfl d_Mo_thrown_4 ⟨rfl, rfl⟩
noncomputable def j_in_14 : Option Int32 := some 0
set_option maxRecDepth 100000 in
set_option maxHeartbeats 4000000 in
theorem tj_in_14 {h : mj_H} {r : Int32} (hk : j_in_14 = some r) : mj_W M_Mo_in (mj_q (some (.int r)) h) (0, 0, none) 0 0 14 [none, none, none] [] h := by
  unfold j_in_14 at hk
  refine mj_iconst (v := 0) d_Mo_in_14 (by decide) ?_
  cases hk
  exact mj_zret rfl rfl d_Mo_in_15 ⟨rfl, rfl⟩
noncomputable def r_in (x0 : Int32) (x1 : Int32) (x2 : Int32) : Option Int32 := if x0 < x1 then (j_in_14 ) else (if x2 < x0 then (j_in_14 ) else (some 1))
set_option maxRecDepth 100000 in
set_option maxHeartbeats 4000000 in
theorem tm_in {h : mj_H} {r : Int32} {x0 : Int32} {x1 : Int32} {x2 : Int32} (hk : r_in x0 x1 x2 = some r) : mj_Met M_Mo_in (0, 0, none) 0 0 [.int x0, .int x1, .int x2] h (mj_q (some (.int r)) h) := by
  unfold r_in at hk
  refine mj_enter (r := 0) rfl rfl (by decide) rfl ?_
  show mj_W M_Mo_in _ _ _ _ 0 [some (.int x0), some (.int x1), some (.int x2)] [] h
  refine mj_iload_n d_Mo_in_0 rfl ?_
  refine mj_iload_n d_Mo_in_1 rfl ?_
  refine mj_icmp_lt (tgt := 14) d_Mo_in_2 (by decide) (fun c_2 => ?_) (fun c_2 => ?_)
  · replace hk := og_pos c_2 hk
    refine mj_fg 0 (L' := [none, some (.int x1), some (.int x2)]) rfl ?_
    refine mj_fg 1 (L' := [none, none, some (.int x2)]) rfl ?_
    refine mj_fg 2 (L' := [none, none, none]) rfl ?_
    exact tj_in_14 hk
  · replace hk := og_neg c_2 hk
    refine mj_iload_n d_Mo_in_5 rfl ?_
    refine mj_iload_n d_Mo_in_6 rfl ?_
    refine mj_icmp_gt (tgt := 14) d_Mo_in_7 (by decide) (fun c_7 => ?_) (fun c_7 => ?_)
    · replace hk := og_pos c_7 hk
      refine mj_fg 0 (L' := [none, some (.int x1), some (.int x2)]) rfl ?_
      refine mj_fg 1 (L' := [none, none, some (.int x2)]) rfl ?_
      refine mj_fg 2 (L' := [none, none, none]) rfl ?_
      exact tj_in_14 hk
    · replace hk := og_neg c_7 hk
      refine mj_iconst (v := 1) d_Mo_in_10 (by decide) ?_
      refine mj_goto (tgt := 15) d_Mo_in_11 (by decide) ?_
      cases hk
      exact mj_zret rfl rfl d_Mo_in_15 ⟨rfl, rfl⟩
noncomputable def r_fail (x1 : Int32) (g : mo_G) : Option (Prod Int32 mo_G) := some (0, (upd g.1 5 x1, g.2))
set_option maxRecDepth 100000 in
set_option maxHeartbeats 4000000 in
theorem tm_fail {h : mj_H} {r : (Prod Int32 mo_G)} (hl : 39 < h.length) {x1 : Int32} {g : mo_G} (hk : r_fail x1 g = some r) : mj_Met M_Mo_fail (0, 0, none) 0 0 [.ref 27, .int x1] (mo_up h g) (mj_q (some (.int r.1)) (mo_up h r.2)) := by
  unfold r_fail at hk
  refine mj_enter (r := 0) rfl rfl (by decide) rfl ?_
  show mj_W M_Mo_fail _ _ _ _ 0 [some (.ref 27), some (.int x1)] [] (mo_up h g)
  refine mj_aload_n d_Mo_fail_0 rfl ?_
  refine mj_iload_n d_Mo_fail_1 rfl ?_
  refine mj_put ok_Mo (k := 5) (by decide) fl_Mo_59 rfl (fun _ => rfl) (fun _ => rfl) (Nat.le_of_ble_eq_true rfl) d_Mo_fail_2 (mo_h hl) ?_
  refine mj_hp (h1 := mo_up h (upd g.1 5 x1, g.2)) (mo_p5 (g := g) hl x1) ?_
  refine mj_iconst (v := 0) d_Mo_fail_5 (by decide) ?_
  cases hk
  exact mj_iret rfl d_Mo_fail_6 ⟨rfl, rfl⟩
noncomputable def j_begin_20 (g : mo_G) : Option (Prod Int32 mo_G) := (r_fail 1 g).bind (fun z2 => some (z2.1, z2.2))
set_option maxRecDepth 100000 in
set_option maxHeartbeats 4000000 in
theorem tj_begin_20 {h : mj_H} {r : (Prod Int32 mo_G)} (hl : 39 < h.length) {g : mo_G} (hk : j_begin_20 g = some r) : mj_W M_Mo_begin (mj_q (some (.int r.1)) (mo_up h r.2)) (1, 22, none) 0 0 20 [some (.ref 27), none, none, none] [] (mo_up h g) := by
  unfold j_begin_20 at hk
  refine mj_aload_n d_Mo_begin_20 rfl ?_
  refine mj_iconst (v := 1) d_Mo_begin_21 (by decide) ?_
  obtain ⟨z2, hz2, hk⟩ := og_b hk
  refine mj_cV (S := []) (S1 := [.int z2.1]) (tm_fail hl hz2) d_Mo_begin_22 cw_Mo_fail ml_Mo_91 im_Mo_fail se_Mo_fail rfl (mo_h hl) (by decide) rfl (Nat.le_of_ble_eq_true rfl) rfl rfl ?_
  cases hk
  exact mj_iret rfl d_Mo_begin_25 ⟨rfl, rfl⟩
noncomputable def l_begin_48 (K : Int32 → Int32 → mo_G → Option (Prod Int32 mo_G)) : Nat → Int32 → Int32 → Int32 → mo_G → Option (Prod Int32 mo_G)
  | 0, _, _, _, _ => none
  | n + 1, x1, x2, x3, g => if 192 ≤ x3 then (K x1 x2 g) else (og (vp_in (x3 : Int32) 192) ((fun x1 x2 x3 g => l_begin_48 K n x1 x2 x3 g) x1 x2 (x3 + 1) (g.1, mo_uA g.2 3 (upd (g.2 3) (x3 : Int32).toNatClampNeg 0))))
set_option maxRecDepth 100000 in
set_option maxHeartbeats 4000000 in
theorem tl_begin_48 {h : mj_H} {r : (Prod Int32 mo_G)} (hl : 39 < h.length) {K : Int32 → Int32 → mo_G → Option (Prod Int32 mo_G)} (hK : (∀ (x1 : Int32) (x2 : Int32) (g : mo_G), K x1 x2 g = some r → mj_W M_Mo_begin (mj_q (some (.int r.1)) (mo_up h r.2)) (1, 22, none) 0 0 68 [some (.ref 27), some (.int x1), some (.int x2), none] [] (mo_up h g))) : ∀ (n : Nat) (x1 : Int32) (x2 : Int32) (x3 : Int32) (g : mo_G), l_begin_48 K n x1 x2 x3 g = some r → mj_W M_Mo_begin (mj_q (some (.int r.1)) (mo_up h r.2)) (1, 22, none) 0 0 48 [some (.ref 27), some (.int x1), some (.int x2), some (.int x3)] [] (mo_up h g) := by
  intro n
  induction n with
  | zero =>
    intro x1 x2 x3 g hk
    cases hk
  | succ n hbk =>
    intro x1 x2 x3 g hk
    rw [l_begin_48] at hk
    refine mj_iload_n d_Mo_begin_48 rfl ?_
    refine mj_sipush (v := 192) d_Mo_begin_49 (by decide) ?_
    refine mj_icmp_ge (tgt := 68) d_Mo_begin_52 (by decide) (fun c_52 => ?_) (fun c_52 => ?_)
    · replace hk := og_pos c_52 hk
      refine mj_fg 3 (L' := [some (.ref 27), some (.int x1), some (.int x2), none]) rfl ?_
      exact hK _ _ _ hk
    · replace hk := og_neg c_52 hk
      refine mj_aload_n d_Mo_begin_55 rfl ?_
      refine mj_get ok_Mo (k := 9) (v := .ref 31) (by decide) fl_Mo_32 d_Mo_begin_56 (mo_h hl) rfl ?_
      refine mj_iload_n d_Mo_begin_59 rfl ?_
      refine mj_iconst (v := 0) d_Mo_begin_60 (by decide) ?_
      have q4 := og_1 hk
      replace hk := og_2 hk
      refine mj_iast (f := (g.2 3)) d_Mo_begin_61 (mo_a3 hl) q4 ?_
      refine mj_hp (h1 := mo_up h (g.1, mo_uA g.2 3 (upd (g.2 3) (x3 : Int32).toNatClampNeg 0))) (mo_b3 (g := g) hl (upd (g.2 3) (x3 : Int32).toNatClampNeg 0)) ?_
      refine mj_iinc (x := x3) (v := x3 + 1) (L' := [some (.ref 27), some (.int x1), some (.int x2), some (.int (x3 + 1))]) d_Mo_begin_62 rfl rfl (by decide) rfl rfl ?_
      refine mj_goto (tgt := 48) d_Mo_begin_65 (by decide) ?_
      exact hbk _ _ _ _ hk
noncomputable def r_begin (x1 : Int32) (x2 : Int32) (g : mo_G) : Option (Prod Int32 mo_G) := (r_in x1 1 8).bind (fun z1 => if z1 = 0 then (j_begin_20 g) else ((r_in x2 1 8).bind (fun z3 => if z3 = 0 then (j_begin_20 g) else (l_begin_48 (fun y6 y7 g5 => some ((y6 * y7), g5)) 2000 x1 x2 0 (upd (upd (upd (upd g.1 5 0) 0 x1) 1 x2) 2 0, g.2)))))
set_option maxRecDepth 100000 in
set_option maxHeartbeats 4000000 in
theorem tm_begin {h : mj_H} {r : (Prod Int32 mo_G)} (hl : 39 < h.length) {x1 : Int32} {x2 : Int32} {g : mo_G} (hk : r_begin x1 x2 g = some r) : mj_Met M_Mo_begin (1, 22, none) 0 0 [.ref 27, .int x1, .int x2] (mo_up h g) (mj_q (some (.int r.1)) (mo_up h r.2)) := by
  unfold r_begin at hk
  refine mj_enter (r := 1) rfl rfl (by decide) rfl ?_
  show mj_W M_Mo_begin _ _ _ _ 0 [some (.ref 27), some (.int x1), some (.int x2), none] [] (mo_up h g)
  refine mj_iload_n d_Mo_begin_0 rfl ?_
  refine mj_iconst (v := 1) d_Mo_begin_1 (by decide) ?_
  refine mj_bipush (v := 8) d_Mo_begin_2 (by decide) ?_
  obtain ⟨z1, hz1, hk⟩ := og_b hk
  refine mj_cS (S := []) (S1 := [.int z1]) (tm_in hz1) d_Mo_begin_4 cw_Mo_in ml_Mo_87 st_Mo_in (by decide) rfl (Nat.le_of_ble_eq_true rfl) rfl rfl ?_
  refine mj_if_eq (tgt := 20) d_Mo_begin_7 (by decide) (fun c_7 => ?_) (fun c_7 => ?_)
  · replace hk := og_pos c_7 hk
    refine mj_fg 1 (L' := [some (.ref 27), none, some (.int x2), none]) rfl ?_
    refine mj_fg 2 (L' := [some (.ref 27), none, none, none]) rfl ?_
    exact tj_begin_20 hl hk
  · replace hk := og_neg c_7 hk
    refine mj_iload_n d_Mo_begin_10 rfl ?_
    refine mj_iconst (v := 1) d_Mo_begin_11 (by decide) ?_
    refine mj_bipush (v := 8) d_Mo_begin_12 (by decide) ?_
    obtain ⟨z3, hz3, hk⟩ := og_b hk
    refine mj_cS (S := []) (S1 := [.int z3]) (tm_in hz3) d_Mo_begin_14 cw_Mo_in ml_Mo_87 st_Mo_in (by decide) rfl (Nat.le_of_ble_eq_true rfl) rfl rfl ?_
    refine mj_if_ne (tgt := 26) d_Mo_begin_17 (by decide) (fun c_17 => ?_) (fun c_17 => ?_)
    · replace hk := og_neg c_17 hk
      refine mj_aload_n d_Mo_begin_26 rfl ?_
      refine mj_iconst (v := 0) d_Mo_begin_27 (by decide) ?_
      refine mj_put ok_Mo (k := 5) (by decide) fl_Mo_59 rfl (fun _ => rfl) (fun _ => rfl) (Nat.le_of_ble_eq_true rfl) d_Mo_begin_28 (mo_h hl) ?_
      refine mj_hp (h1 := mo_up h (upd g.1 5 0, g.2)) (mo_p5 (g := g) hl 0) ?_
      refine mj_aload_n d_Mo_begin_31 rfl ?_
      refine mj_iload_n d_Mo_begin_32 rfl ?_
      refine mj_put ok_Mo (k := 0) (by decide) fl_Mo_7 rfl (fun _ => rfl) (fun _ => rfl) (Nat.le_of_ble_eq_true rfl) d_Mo_begin_33 (mo_h hl) ?_
      refine mj_hp (h1 := mo_up h (upd (upd g.1 5 0) 0 x1, g.2)) (mo_p0 (g := (upd g.1 5 0, g.2)) hl x1) ?_
      refine mj_aload_n d_Mo_begin_36 rfl ?_
      refine mj_iload_n d_Mo_begin_37 rfl ?_
      refine mj_put ok_Mo (k := 1) (by decide) fl_Mo_13 rfl (fun _ => rfl) (fun _ => rfl) (Nat.le_of_ble_eq_true rfl) d_Mo_begin_38 (mo_h hl) ?_
      refine mj_hp (h1 := mo_up h (upd (upd (upd g.1 5 0) 0 x1) 1 x2, g.2)) (mo_p1 (g := (upd (upd g.1 5 0) 0 x1, g.2)) hl x2) ?_
      refine mj_aload_n d_Mo_begin_41 rfl ?_
      refine mj_iconst (v := 0) d_Mo_begin_42 (by decide) ?_
      refine mj_put ok_Mo (k := 2) (by decide) fl_Mo_16 rfl (fun _ => rfl) (fun _ => rfl) (Nat.le_of_ble_eq_true rfl) d_Mo_begin_43 (mo_h hl) ?_
      refine mj_hp (h1 := mo_up h (upd (upd (upd (upd g.1 5 0) 0 x1) 1 x2) 2 0, g.2)) (mo_p2 (g := (upd (upd (upd g.1 5 0) 0 x1) 1 x2, g.2)) hl 0) ?_
      refine mj_iconst (v := 0) d_Mo_begin_46 (by decide) ?_
      refine mj_istore_n (L' := [some (.ref 27), some (.int x1), some (.int x2), some (.int 0)]) d_Mo_begin_47 (by decide) rfl rfl ?_
      refine tl_begin_48 hl ?_ 2000 _ _ _ _ hk
      intro y6 y7 g5 hk
      refine mj_iload_n d_Mo_begin_68 rfl ?_
      refine mj_iload_n d_Mo_begin_69 rfl ?_
      refine mj_imul d_Mo_begin_70 ?_
      cases hk
      exact mj_iret rfl d_Mo_begin_71 ⟨rfl, rfl⟩
    · replace hk := og_pos c_17 hk
      refine mj_fg 1 (L' := [some (.ref 27), none, some (.int x2), none]) rfl ?_
      refine mj_fg 2 (L' := [some (.ref 27), none, none, none]) rfl ?_
      exact tj_begin_20 hl hk
noncomputable def j_channel_56 (g : mo_G) : Option (Prod Int32 mo_G) := (r_fail 1 g).bind (fun z3 => some (z3.1, z3.2))
set_option maxRecDepth 100000 in
set_option maxHeartbeats 4000000 in
theorem tj_channel_56 {h : mj_H} {r : (Prod Int32 mo_G)} (hl : 39 < h.length) {g : mo_G} (hk : j_channel_56 g = some r) : mj_W M_Mo_channel (mj_q (some (.int r.1)) (mo_up h r.2)) (1, 22, none) 0 0 56 [some (.ref 27), none, none, none, none] [] (mo_up h g) := by
  unfold j_channel_56 at hk
  refine mj_aload_n d_Mo_channel_56 rfl ?_
  refine mj_iconst (v := 1) d_Mo_channel_57 (by decide) ?_
  obtain ⟨z3, hz3, hk⟩ := og_b hk
  refine mj_cV (S := []) (S1 := [.int z3.1]) (tm_fail hl hz3) d_Mo_channel_58 cw_Mo_fail ml_Mo_91 im_Mo_fail se_Mo_fail rfl (mo_h hl) (by decide) rfl (Nat.le_of_ble_eq_true rfl) rfl rfl ?_
  cases hk
  exact mj_iret rfl d_Mo_channel_61 ⟨rfl, rfl⟩
noncomputable def j_channel_25 (x1 : Int32) (x2 : Int32) (x3 : Int32) (s0 : Int32) (g : mo_G) : Option (Prod Int32 mo_G) := (r_in x1 s0 122).bind (fun z2 => if z2 = 0 then (j_channel_56 g) else ((r_in x2 0 2).bind (fun z4 => if z4 = 0 then (j_channel_56 g) else ((r_in x3 1 2).bind (fun z5 => if z5 = 0 then (j_channel_56 g) else (if (g.1 2) = 3 then ((r_fail 2 g).bind (fun z9 => some (z9.1, z9.2))) else (og (vp_in ((g.1 2) : Int32) 3) (og (vp_in ((g.1 2) : Int32) 3) (og (vp_in ((g.1 2) : Int32) 3) (some (((g.1 2) + 1), (upd (upd g.1 5 0) 2 (((g.1 2) + 1)), mo_uA (mo_uA (mo_uA g.2 0 (upd (g.2 0) ((g.1 2) : Int32).toNatClampNeg x1)) 1 (upd (g.2 1) ((g.1 2) : Int32).toNatClampNeg x2)) 2 (upd (g.2 2) ((g.1 2) : Int32).toNatClampNeg x3)))))))))))))
set_option maxRecDepth 100000 in
set_option maxHeartbeats 4000000 in
theorem tj_channel_25 {h : mj_H} {r : (Prod Int32 mo_G)} (hl : 39 < h.length) {x1 : Int32} {x2 : Int32} {x3 : Int32} {s0 : Int32} {g : mo_G} (hk : j_channel_25 x1 x2 x3 s0 g = some r) : mj_W M_Mo_channel (mj_q (some (.int r.1)) (mo_up h r.2)) (1, 22, none) 0 0 25 [some (.ref 27), some (.int x1), some (.int x2), some (.int x3), none] [.int s0] (mo_up h g) := by
  unfold j_channel_25 at hk
  refine mj_istore (L' := [some (.ref 27), some (.int x1), some (.int x2), some (.int x3), some (.int s0)]) d_Mo_channel_25 (by decide) rfl rfl ?_
  refine mj_iload_n d_Mo_channel_27 rfl ?_
  refine mj_iload d_Mo_channel_28 rfl ?_
  refine mj_bipush (v := 122) d_Mo_channel_30 (by decide) ?_
  obtain ⟨z2, hz2, hk⟩ := og_b hk
  refine mj_cS (S := []) (S1 := [.int z2]) (tm_in hz2) d_Mo_channel_32 cw_Mo_in ml_Mo_87 st_Mo_in (by decide) rfl (Nat.le_of_ble_eq_true rfl) rfl rfl ?_
  refine mj_if_eq (tgt := 56) d_Mo_channel_35 (by decide) (fun c_35 => ?_) (fun c_35 => ?_)
  · replace hk := og_pos c_35 hk
    refine mj_fg 1 (L' := [some (.ref 27), none, some (.int x2), some (.int x3), some (.int s0)]) rfl ?_
    refine mj_fg 2 (L' := [some (.ref 27), none, none, some (.int x3), some (.int s0)]) rfl ?_
    refine mj_fg 3 (L' := [some (.ref 27), none, none, none, some (.int s0)]) rfl ?_
    refine mj_fg 4 (L' := [some (.ref 27), none, none, none, none]) rfl ?_
    exact tj_channel_56 hl hk
  · replace hk := og_neg c_35 hk
    refine mj_iload_n d_Mo_channel_38 rfl ?_
    refine mj_iconst (v := 0) d_Mo_channel_39 (by decide) ?_
    refine mj_iconst (v := 2) d_Mo_channel_40 (by decide) ?_
    obtain ⟨z4, hz4, hk⟩ := og_b hk
    refine mj_cS (S := []) (S1 := [.int z4]) (tm_in hz4) d_Mo_channel_41 cw_Mo_in ml_Mo_87 st_Mo_in (by decide) rfl (Nat.le_of_ble_eq_true rfl) rfl rfl ?_
    refine mj_if_eq (tgt := 56) d_Mo_channel_44 (by decide) (fun c_44 => ?_) (fun c_44 => ?_)
    · replace hk := og_pos c_44 hk
      refine mj_fg 1 (L' := [some (.ref 27), none, some (.int x2), some (.int x3), some (.int s0)]) rfl ?_
      refine mj_fg 2 (L' := [some (.ref 27), none, none, some (.int x3), some (.int s0)]) rfl ?_
      refine mj_fg 3 (L' := [some (.ref 27), none, none, none, some (.int s0)]) rfl ?_
      refine mj_fg 4 (L' := [some (.ref 27), none, none, none, none]) rfl ?_
      exact tj_channel_56 hl hk
    · replace hk := og_neg c_44 hk
      refine mj_iload_n d_Mo_channel_47 rfl ?_
      refine mj_iconst (v := 1) d_Mo_channel_48 (by decide) ?_
      refine mj_iconst (v := 2) d_Mo_channel_49 (by decide) ?_
      obtain ⟨z5, hz5, hk⟩ := og_b hk
      refine mj_cS (S := []) (S1 := [.int z5]) (tm_in hz5) d_Mo_channel_50 cw_Mo_in ml_Mo_87 st_Mo_in (by decide) rfl (Nat.le_of_ble_eq_true rfl) rfl rfl ?_
      refine mj_if_ne (tgt := 62) d_Mo_channel_53 (by decide) (fun c_53 => ?_) (fun c_53 => ?_)
      · replace hk := og_neg c_53 hk
        refine mj_aload_n d_Mo_channel_62 rfl ?_
        refine mj_get ok_Mo (k := 2) (v := .int (g.1 2)) (by decide) fl_Mo_16 d_Mo_channel_63 (mo_h hl) rfl ?_
        refine mj_iconst (v := 3) d_Mo_channel_66 (by decide) ?_
        refine mj_icmp_ne (tgt := 76) d_Mo_channel_67 (by decide) (fun c_67 => ?_) (fun c_67 => ?_)
        · replace hk := og_neg c_67 hk
          refine mj_aload_n d_Mo_channel_76 rfl ?_
          refine mj_iconst (v := 0) d_Mo_channel_77 (by decide) ?_
          refine mj_put ok_Mo (k := 5) (by decide) fl_Mo_59 rfl (fun _ => rfl) (fun _ => rfl) (Nat.le_of_ble_eq_true rfl) d_Mo_channel_78 (mo_h hl) ?_
          refine mj_hp (h1 := mo_up h (upd g.1 5 0, g.2)) (mo_p5 (g := g) hl 0) ?_
          refine mj_aload_n d_Mo_channel_81 rfl ?_
          refine mj_get ok_Mo (k := 6) (v := .ref 28) (by decide) fl_Mo_22 d_Mo_channel_82 (mo_h hl) rfl ?_
          refine mj_aload_n d_Mo_channel_85 rfl ?_
          refine mj_get ok_Mo (k := 2) (v := .int (g.1 2)) (by decide) fl_Mo_16 d_Mo_channel_86 (mo_h hl) rfl ?_
          refine mj_iload_n d_Mo_channel_89 rfl ?_
          have q6 := og_1 hk
          replace hk := og_2 hk
          refine mj_iast (f := (g.2 0)) d_Mo_channel_90 (mo_a0 hl) q6 ?_
          refine mj_hp (h1 := mo_up h (upd g.1 5 0, mo_uA g.2 0 (upd (g.2 0) ((g.1 2) : Int32).toNatClampNeg x1))) (mo_b0 (g := (upd g.1 5 0, g.2)) hl (upd (g.2 0) ((g.1 2) : Int32).toNatClampNeg x1)) ?_
          refine mj_aload_n d_Mo_channel_91 rfl ?_
          refine mj_get ok_Mo (k := 7) (v := .ref 29) (by decide) fl_Mo_26 d_Mo_channel_92 (mo_h hl) rfl ?_
          refine mj_aload_n d_Mo_channel_95 rfl ?_
          refine mj_get ok_Mo (k := 2) (v := .int (g.1 2)) (by decide) fl_Mo_16 d_Mo_channel_96 (mo_h hl) rfl ?_
          refine mj_iload_n d_Mo_channel_99 rfl ?_
          have q7 := og_1 hk
          replace hk := og_2 hk
          refine mj_iast (f := (g.2 1)) d_Mo_channel_100 (mo_a1 hl) q7 ?_
          refine mj_hp (h1 := mo_up h (upd g.1 5 0, mo_uA (mo_uA g.2 0 (upd (g.2 0) ((g.1 2) : Int32).toNatClampNeg x1)) 1 (upd (g.2 1) ((g.1 2) : Int32).toNatClampNeg x2))) (mo_b1 (g := (upd g.1 5 0, mo_uA g.2 0 (upd (g.2 0) ((g.1 2) : Int32).toNatClampNeg x1))) hl (upd (g.2 1) ((g.1 2) : Int32).toNatClampNeg x2)) ?_
          refine mj_aload_n d_Mo_channel_101 rfl ?_
          refine mj_get ok_Mo (k := 8) (v := .ref 30) (by decide) fl_Mo_29 d_Mo_channel_102 (mo_h hl) rfl ?_
          refine mj_aload_n d_Mo_channel_105 rfl ?_
          refine mj_get ok_Mo (k := 2) (v := .int (g.1 2)) (by decide) fl_Mo_16 d_Mo_channel_106 (mo_h hl) rfl ?_
          refine mj_iload_n d_Mo_channel_109 rfl ?_
          have q8 := og_1 hk
          replace hk := og_2 hk
          refine mj_iast (f := (g.2 2)) d_Mo_channel_110 (mo_a2 hl) q8 ?_
          refine mj_hp (h1 := mo_up h (upd g.1 5 0, mo_uA (mo_uA (mo_uA g.2 0 (upd (g.2 0) ((g.1 2) : Int32).toNatClampNeg x1)) 1 (upd (g.2 1) ((g.1 2) : Int32).toNatClampNeg x2)) 2 (upd (g.2 2) ((g.1 2) : Int32).toNatClampNeg x3))) (mo_b2 (g := (upd g.1 5 0, mo_uA (mo_uA g.2 0 (upd (g.2 0) ((g.1 2) : Int32).toNatClampNeg x1)) 1 (upd (g.2 1) ((g.1 2) : Int32).toNatClampNeg x2))) hl (upd (g.2 2) ((g.1 2) : Int32).toNatClampNeg x3)) ?_
          refine mj_aload_n d_Mo_channel_111 rfl ?_
          refine mj_dup d_Mo_channel_112 rfl ?_
          refine mj_get ok_Mo (k := 2) (v := .int (g.1 2)) (by decide) fl_Mo_16 d_Mo_channel_113 (mo_h hl) rfl ?_
          refine mj_iconst (v := 1) d_Mo_channel_116 (by decide) ?_
          refine mj_iadd d_Mo_channel_117 ?_
          refine mj_put ok_Mo (k := 2) (by decide) fl_Mo_16 rfl (fun _ => rfl) (fun _ => rfl) (Nat.le_of_ble_eq_true rfl) d_Mo_channel_118 (mo_h hl) ?_
          refine mj_hp (h1 := mo_up h (upd (upd g.1 5 0) 2 (((g.1 2) + 1)), mo_uA (mo_uA (mo_uA g.2 0 (upd (g.2 0) ((g.1 2) : Int32).toNatClampNeg x1)) 1 (upd (g.2 1) ((g.1 2) : Int32).toNatClampNeg x2)) 2 (upd (g.2 2) ((g.1 2) : Int32).toNatClampNeg x3))) (mo_p2 (g := (upd g.1 5 0, mo_uA (mo_uA (mo_uA g.2 0 (upd (g.2 0) ((g.1 2) : Int32).toNatClampNeg x1)) 1 (upd (g.2 1) ((g.1 2) : Int32).toNatClampNeg x2)) 2 (upd (g.2 2) ((g.1 2) : Int32).toNatClampNeg x3))) hl (((g.1 2) + 1))) ?_
          refine mj_aload_n d_Mo_channel_121 rfl ?_
          refine mj_get ok_Mo (k := 2) (v := .int ((g.1 2) + 1)) (by decide) fl_Mo_16 d_Mo_channel_122 (mo_h hl) rfl ?_
          cases hk
          exact mj_iret rfl d_Mo_channel_125 ⟨rfl, rfl⟩
        · replace hk := og_pos c_67 hk
          refine mj_aload_n d_Mo_channel_70 rfl ?_
          refine mj_iconst (v := 2) d_Mo_channel_71 (by decide) ?_
          obtain ⟨z9, hz9, hk⟩ := og_b hk
          refine mj_cV (S := []) (S1 := [.int z9.1]) (tm_fail hl hz9) d_Mo_channel_72 cw_Mo_fail ml_Mo_91 im_Mo_fail se_Mo_fail rfl (mo_h hl) (by decide) rfl (Nat.le_of_ble_eq_true rfl) rfl rfl ?_
          cases hk
          exact mj_iret rfl d_Mo_channel_75 ⟨rfl, rfl⟩
      · replace hk := og_pos c_53 hk
        refine mj_fg 1 (L' := [some (.ref 27), none, some (.int x2), some (.int x3), some (.int s0)]) rfl ?_
        refine mj_fg 2 (L' := [some (.ref 27), none, none, some (.int x3), some (.int s0)]) rfl ?_
        refine mj_fg 3 (L' := [some (.ref 27), none, none, none, some (.int s0)]) rfl ?_
        refine mj_fg 4 (L' := [some (.ref 27), none, none, none, none]) rfl ?_
        exact tj_channel_56 hl hk
noncomputable def r_channel (x1 : Int32) (x2 : Int32) (x3 : Int32) (g : mo_G) : Option (Prod Int32 mo_G) := if (g.1 2) = 0 then (j_channel_25 x1 x2 x3 97 g) else (og (vp_in (((g.1 2) - 1) : Int32) 3) (j_channel_25 x1 x2 x3 (((((g.2 0) (((g.1 2) - 1) : Int32).toNatClampNeg)) + 1)) g))
set_option maxRecDepth 100000 in
set_option maxHeartbeats 4000000 in
theorem tm_channel {h : mj_H} {r : (Prod Int32 mo_G)} (hl : 39 < h.length) {x1 : Int32} {x2 : Int32} {x3 : Int32} {g : mo_G} (hk : r_channel x1 x2 x3 g = some r) : mj_Met M_Mo_channel (1, 22, none) 0 0 [.ref 27, .int x1, .int x2, .int x3] (mo_up h g) (mj_q (some (.int r.1)) (mo_up h r.2)) := by
  unfold r_channel at hk
  refine mj_enter (r := 1) rfl rfl (by decide) rfl ?_
  show mj_W M_Mo_channel _ _ _ _ 0 [some (.ref 27), some (.int x1), some (.int x2), some (.int x3), none] [] (mo_up h g)
  refine mj_aload_n d_Mo_channel_0 rfl ?_
  refine mj_get ok_Mo (k := 2) (v := .int (g.1 2)) (by decide) fl_Mo_16 d_Mo_channel_1 (mo_h hl) rfl ?_
  refine mj_if_ne (tgt := 12) d_Mo_channel_4 (by decide) (fun c_4 => ?_) (fun c_4 => ?_)
  · replace hk := og_neg c_4 hk
    refine mj_aload_n d_Mo_channel_12 rfl ?_
    refine mj_get ok_Mo (k := 6) (v := .ref 28) (by decide) fl_Mo_22 d_Mo_channel_13 (mo_h hl) rfl ?_
    refine mj_aload_n d_Mo_channel_16 rfl ?_
    refine mj_get ok_Mo (k := 2) (v := .int (g.1 2)) (by decide) fl_Mo_16 d_Mo_channel_17 (mo_h hl) rfl ?_
    refine mj_iconst (v := 1) d_Mo_channel_20 (by decide) ?_
    refine mj_isub d_Mo_channel_21 ?_
    have q1 := og_1 hk
    replace hk := og_2 hk
    refine mj_iald (f := (g.2 0)) d_Mo_channel_22 (mo_a0 hl) q1 ?_
    refine mj_iconst (v := 1) d_Mo_channel_23 (by decide) ?_
    refine mj_iadd d_Mo_channel_24 ?_
    exact tj_channel_25 hl hk
  · replace hk := og_pos c_4 hk
    refine mj_bipush (v := 97) d_Mo_channel_7 (by decide) ?_
    refine mj_goto (tgt := 25) d_Mo_channel_9 (by decide) ?_
    exact tj_channel_25 hl hk
noncomputable def j_has_68 (g : mo_G) : Option (Prod Int32 mo_G) := some (0, g)
set_option maxRecDepth 100000 in
set_option maxHeartbeats 4000000 in
theorem tj_has_68 {h : mj_H} {r : (Prod Int32 mo_G)} (hl : 39 < h.length) {g : mo_G} (hk : j_has_68 g = some r) : mj_W M_Mo_has (mj_q (some (.int r.1)) (mo_up h r.2)) (1, 22, none) 0 0 68 [some (.ref 27), none, none, none] [] (mo_up h g) := by
  unfold j_has_68 at hk
  refine mj_iconst (v := 0) d_Mo_has_68 (by decide) ?_
  cases hk
  exact mj_zret rfl rfl d_Mo_has_69 ⟨rfl, rfl⟩
noncomputable def r_has (x1 : Int32) (x2 : Int32) (x3 : Int32) (g : mo_G) : Option (Prod Int32 mo_G) := (r_in x1 0 (((g.1 2) - 1))).bind (fun z1 => if z1 = 0 then (j_has_68 g) else ((r_in x2 0 (((g.1 0) - 1))).bind (fun z2 => if z2 = 0 then (j_has_68 g) else ((r_in x3 0 (((g.1 1) - 1))).bind (fun z3 => if z3 = 0 then (j_has_68 g) else (og (vp_in (x1 : Int32) 3) (og (¬ (((g.2 2) (x1 : Int32).toNatClampNeg)) = 0) (if ((x2 - x2 / (((g.2 2) (x1 : Int32).toNatClampNeg)) * (((g.2 2) (x1 : Int32).toNatClampNeg)))) = 0 then (og (vp_in (x1 : Int32) 3) (og (¬ (((g.2 2) (x1 : Int32).toNatClampNeg)) = 0) (if ((x3 - x3 / (((g.2 2) (x1 : Int32).toNatClampNeg)) * (((g.2 2) (x1 : Int32).toNatClampNeg)))) = 0 then (some (1, g)) else (j_has_68 g)))) else (j_has_68 g)))))))))
set_option maxRecDepth 100000 in
set_option maxHeartbeats 4000000 in
theorem tm_has {h : mj_H} {r : (Prod Int32 mo_G)} (hl : 39 < h.length) {x1 : Int32} {x2 : Int32} {x3 : Int32} {g : mo_G} (hk : r_has x1 x2 x3 g = some r) : mj_Met M_Mo_has (1, 22, none) 0 0 [.ref 27, .int x1, .int x2, .int x3] (mo_up h g) (mj_q (some (.int r.1)) (mo_up h r.2)) := by
  unfold r_has at hk
  refine mj_enter (r := 0) rfl rfl (by decide) rfl ?_
  show mj_W M_Mo_has _ _ _ _ 0 [some (.ref 27), some (.int x1), some (.int x2), some (.int x3)] [] (mo_up h g)
  refine mj_iload_n d_Mo_has_0 rfl ?_
  refine mj_iconst (v := 0) d_Mo_has_1 (by decide) ?_
  refine mj_aload_n d_Mo_has_2 rfl ?_
  refine mj_get ok_Mo (k := 2) (v := .int (g.1 2)) (by decide) fl_Mo_16 d_Mo_has_3 (mo_h hl) rfl ?_
  refine mj_iconst (v := 1) d_Mo_has_6 (by decide) ?_
  refine mj_isub d_Mo_has_7 ?_
  obtain ⟨z1, hz1, hk⟩ := og_b hk
  refine mj_cS (S := []) (S1 := [.int z1]) (tm_in hz1) d_Mo_has_8 cw_Mo_in ml_Mo_87 st_Mo_in (by decide) rfl (Nat.le_of_ble_eq_true rfl) rfl rfl ?_
  refine mj_if_eq (tgt := 68) d_Mo_has_11 (by decide) (fun c_11 => ?_) (fun c_11 => ?_)
  · replace hk := og_pos c_11 hk
    refine mj_fg 1 (L' := [some (.ref 27), none, some (.int x2), some (.int x3)]) rfl ?_
    refine mj_fg 2 (L' := [some (.ref 27), none, none, some (.int x3)]) rfl ?_
    refine mj_fg 3 (L' := [some (.ref 27), none, none, none]) rfl ?_
    exact tj_has_68 hl hk
  · replace hk := og_neg c_11 hk
    refine mj_iload_n d_Mo_has_14 rfl ?_
    refine mj_iconst (v := 0) d_Mo_has_15 (by decide) ?_
    refine mj_aload_n d_Mo_has_16 rfl ?_
    refine mj_get ok_Mo (k := 0) (v := .int (g.1 0)) (by decide) fl_Mo_7 d_Mo_has_17 (mo_h hl) rfl ?_
    refine mj_iconst (v := 1) d_Mo_has_20 (by decide) ?_
    refine mj_isub d_Mo_has_21 ?_
    obtain ⟨z2, hz2, hk⟩ := og_b hk
    refine mj_cS (S := []) (S1 := [.int z2]) (tm_in hz2) d_Mo_has_22 cw_Mo_in ml_Mo_87 st_Mo_in (by decide) rfl (Nat.le_of_ble_eq_true rfl) rfl rfl ?_
    refine mj_if_eq (tgt := 68) d_Mo_has_25 (by decide) (fun c_25 => ?_) (fun c_25 => ?_)
    · replace hk := og_pos c_25 hk
      refine mj_fg 1 (L' := [some (.ref 27), none, some (.int x2), some (.int x3)]) rfl ?_
      refine mj_fg 2 (L' := [some (.ref 27), none, none, some (.int x3)]) rfl ?_
      refine mj_fg 3 (L' := [some (.ref 27), none, none, none]) rfl ?_
      exact tj_has_68 hl hk
    · replace hk := og_neg c_25 hk
      refine mj_iload_n d_Mo_has_28 rfl ?_
      refine mj_iconst (v := 0) d_Mo_has_29 (by decide) ?_
      refine mj_aload_n d_Mo_has_30 rfl ?_
      refine mj_get ok_Mo (k := 1) (v := .int (g.1 1)) (by decide) fl_Mo_13 d_Mo_has_31 (mo_h hl) rfl ?_
      refine mj_iconst (v := 1) d_Mo_has_34 (by decide) ?_
      refine mj_isub d_Mo_has_35 ?_
      obtain ⟨z3, hz3, hk⟩ := og_b hk
      refine mj_cS (S := []) (S1 := [.int z3]) (tm_in hz3) d_Mo_has_36 cw_Mo_in ml_Mo_87 st_Mo_in (by decide) rfl (Nat.le_of_ble_eq_true rfl) rfl rfl ?_
      refine mj_if_eq (tgt := 68) d_Mo_has_39 (by decide) (fun c_39 => ?_) (fun c_39 => ?_)
      · replace hk := og_pos c_39 hk
        refine mj_fg 1 (L' := [some (.ref 27), none, some (.int x2), some (.int x3)]) rfl ?_
        refine mj_fg 2 (L' := [some (.ref 27), none, none, some (.int x3)]) rfl ?_
        refine mj_fg 3 (L' := [some (.ref 27), none, none, none]) rfl ?_
        exact tj_has_68 hl hk
      · replace hk := og_neg c_39 hk
        refine mj_iload_n d_Mo_has_42 rfl ?_
        refine mj_aload_n d_Mo_has_43 rfl ?_
        refine mj_get ok_Mo (k := 8) (v := .ref 30) (by decide) fl_Mo_29 d_Mo_has_44 (mo_h hl) rfl ?_
        refine mj_iload_n d_Mo_has_47 rfl ?_
        have q4 := og_1 hk
        replace hk := og_2 hk
        refine mj_iald (f := (g.2 2)) d_Mo_has_48 (mo_a2 hl) q4 ?_
        have q5 := og_1 hk
        replace hk := og_2 hk
        refine mj_irem d_Mo_has_49 q5 ?_
        refine mj_if_ne (tgt := 68) d_Mo_has_50 (by decide) (fun c_50 => ?_) (fun c_50 => ?_)
        · replace hk := og_neg c_50 hk
          refine mj_fg 1 (L' := [some (.ref 27), none, some (.int x2), some (.int x3)]) rfl ?_
          refine mj_fg 2 (L' := [some (.ref 27), none, none, some (.int x3)]) rfl ?_
          refine mj_fg 3 (L' := [some (.ref 27), none, none, none]) rfl ?_
          exact tj_has_68 hl hk
        · replace hk := og_pos c_50 hk
          refine mj_iload_n d_Mo_has_53 rfl ?_
          refine mj_aload_n d_Mo_has_54 rfl ?_
          refine mj_get ok_Mo (k := 8) (v := .ref 30) (by decide) fl_Mo_29 d_Mo_has_55 (mo_h hl) rfl ?_
          refine mj_iload_n d_Mo_has_58 rfl ?_
          have q6 := og_1 hk
          replace hk := og_2 hk
          refine mj_iald (f := (g.2 2)) d_Mo_has_59 (mo_a2 hl) q6 ?_
          have q7 := og_1 hk
          replace hk := og_2 hk
          refine mj_irem d_Mo_has_60 q7 ?_
          refine mj_if_ne (tgt := 68) d_Mo_has_61 (by decide) (fun c_61 => ?_) (fun c_61 => ?_)
          · replace hk := og_neg c_61 hk
            refine mj_fg 1 (L' := [some (.ref 27), none, some (.int x2), some (.int x3)]) rfl ?_
            refine mj_fg 2 (L' := [some (.ref 27), none, none, some (.int x3)]) rfl ?_
            refine mj_fg 3 (L' := [some (.ref 27), none, none, none]) rfl ?_
            exact tj_has_68 hl hk
          · replace hk := og_pos c_61 hk
            refine mj_iconst (v := 1) d_Mo_has_64 (by decide) ?_
            refine mj_goto (tgt := 69) d_Mo_has_65 (by decide) ?_
            cases hk
            exact mj_zret rfl rfl d_Mo_has_69 ⟨rfl, rfl⟩
noncomputable def j_nearest_31 (x2 : Int32) : Option Int32 := some (x2 + 1)
set_option maxRecDepth 100000 in
set_option maxHeartbeats 4000000 in
theorem tj_nearest_31 {h : mj_H} {r : Int32} {x2 : Int32} (hk : j_nearest_31 x2 = some r) : mj_W M_Mo_nearest (mj_q (some (.int r)) h) (0, 0, none) 0 0 31 [none, none, some (.int x2), none, none] [] h := by
  unfold j_nearest_31 at hk
  refine mj_iload_n d_Mo_nearest_31 rfl ?_
  refine mj_iconst (v := 1) d_Mo_nearest_32 (by decide) ?_
  refine mj_iadd d_Mo_nearest_33 ?_
  refine mj_goto (tgt := 38) d_Mo_nearest_34 (by decide) ?_
  cases hk
  exact mj_iret rfl d_Mo_nearest_38 ⟨rfl, rfl⟩
noncomputable def j_nearest_37 (x2 : Int32) : Option Int32 := some x2
set_option maxRecDepth 100000 in
set_option maxHeartbeats 4000000 in
theorem tj_nearest_37 {h : mj_H} {r : Int32} {x2 : Int32} (hk : j_nearest_37 x2 = some r) : mj_W M_Mo_nearest (mj_q (some (.int r)) h) (0, 0, none) 0 0 37 [none, none, some (.int x2), none, none] [] h := by
  unfold j_nearest_37 at hk
  refine mj_iload_n d_Mo_nearest_37 rfl ?_
  cases hk
  exact mj_iret rfl d_Mo_nearest_38 ⟨rfl, rfl⟩
noncomputable def r_nearest (x0 : UInt64) : Option Int32 := og (vf_n64 (FP.dsub x0 ((FP.i2d (FP.d2i x0))))) (if 0 < ((Op.cmpValue (FP.dcmp ((FP.dsub x0 ((FP.i2d (FP.d2i x0))))) 4602678819172646912) .l)) then (j_nearest_31 (FP.d2i x0)) else (if ((Op.cmpValue (FP.dcmp ((FP.dsub x0 ((FP.i2d (FP.d2i x0))))) 4602678819172646912) .l)) = 0 then (if (((FP.d2i x0) &&& 1)) = 1 then (j_nearest_31 (FP.d2i x0)) else (j_nearest_37 (FP.d2i x0))) else (j_nearest_37 (FP.d2i x0))))
set_option maxRecDepth 100000 in
set_option maxHeartbeats 4000000 in
theorem tm_nearest {h : mj_H} {r : Int32} {x0 : UInt64} (hk : r_nearest x0 = some r) : mj_Met M_Mo_nearest (0, 0, none) 0 0 [.double x0] h (mj_q (some (.int r)) h) := by
  unfold r_nearest at hk
  refine mj_enter (r := 3) rfl rfl (by decide) rfl ?_
  show mj_W M_Mo_nearest _ _ _ _ 0 [some (.double x0), none, none, none, none] [] h
  refine mj_dload_n d_Mo_nearest_0 rfl ?_
  refine mj_d2i d_Mo_nearest_1 ?_
  refine mj_istore_n (L' := [some (.double x0), none, some (.int (FP.d2i x0)), none, none]) d_Mo_nearest_2 (by decide) rfl rfl ?_
  refine mj_dload_n d_Mo_nearest_3 rfl ?_
  refine mj_iload_n d_Mo_nearest_4 rfl ?_
  refine mj_i2d d_Mo_nearest_5 ?_
  have q1 := og_1 hk
  replace hk := og_2 hk
  refine mj_dsub d_Mo_nearest_6 q1 ?_
  refine mj_dstore_n (L' := [some (.double x0), none, some (.int (FP.d2i x0)), some (.double (FP.dsub x0 ((FP.i2d (FP.d2i x0))))), none]) d_Mo_nearest_7 (by decide) rfl rfl ?_
  refine mj_dload_n d_Mo_nearest_8 rfl ?_
  refine mj_ldc2d d_Mo_nearest_9 kd_Mo_62 ?_
  refine mj_dcmp d_Mo_nearest_12 ?_
  refine mj_if_gt (tgt := 31) d_Mo_nearest_13 (by decide) (fun c_13 => ?_) (fun c_13 => ?_)
  · replace hk := og_pos c_13 hk
    refine mj_fg 0 (L' := [none, none, some (.int (FP.d2i x0)), some (.double (FP.dsub x0 ((FP.i2d (FP.d2i x0))))), none]) rfl ?_
    refine mj_fg 3 (L' := [none, none, some (.int (FP.d2i x0)), none, none]) rfl ?_
    exact tj_nearest_31 hk
  · replace hk := og_neg c_13 hk
    refine mj_dload_n d_Mo_nearest_16 rfl ?_
    refine mj_ldc2d d_Mo_nearest_17 kd_Mo_62 ?_
    refine mj_dcmp d_Mo_nearest_20 ?_
    refine mj_if_ne (tgt := 37) d_Mo_nearest_21 (by decide) (fun c_21 => ?_) (fun c_21 => ?_)
    · replace hk := og_neg c_21 hk
      refine mj_fg 0 (L' := [none, none, some (.int (FP.d2i x0)), some (.double (FP.dsub x0 ((FP.i2d (FP.d2i x0))))), none]) rfl ?_
      refine mj_fg 3 (L' := [none, none, some (.int (FP.d2i x0)), none, none]) rfl ?_
      exact tj_nearest_37 hk
    · replace hk := og_pos c_21 hk
      refine mj_iload_n d_Mo_nearest_24 rfl ?_
      refine mj_iconst (v := 1) d_Mo_nearest_25 (by decide) ?_
      refine mj_iand d_Mo_nearest_26 ?_
      refine mj_iconst (v := 1) d_Mo_nearest_27 (by decide) ?_
      refine mj_icmp_ne (tgt := 37) d_Mo_nearest_28 (by decide) (fun c_28 => ?_) (fun c_28 => ?_)
      · replace hk := og_neg c_28 hk
        refine mj_fg 0 (L' := [none, none, some (.int (FP.d2i x0)), some (.double (FP.dsub x0 ((FP.i2d (FP.d2i x0))))), none]) rfl ?_
        refine mj_fg 3 (L' := [none, none, some (.int (FP.d2i x0)), none, none]) rfl ?_
        exact tj_nearest_37 hk
      · replace hk := og_pos c_28 hk
        refine mj_fg 0 (L' := [none, none, some (.int (FP.d2i x0)), some (.double (FP.dsub x0 ((FP.i2d (FP.d2i x0))))), none]) rfl ?_
        refine mj_fg 3 (L' := [none, none, some (.int (FP.d2i x0)), none, none]) rfl ?_
        exact tj_nearest_31 hk
noncomputable def l_bitsOf_9 (K : Int32 → UInt64 → Int32 → Option Int32) : Nat → Int32 → Int32 → UInt64 → Int32 → Int32 → Option Int32
  | 0, _, _, _, _, _ => none
  | n + 1, x2, x3, x4, x6, x7 => if x3 ≤ x7 then (K x2 x4 x6) else (og (vf_n64 (FP.dmul x4 4611686018427387904)) ((fun x2 x3 x4 x6 x7 => l_bitsOf_9 K n x2 x3 x4 x6 x7) x2 x3 (FP.dmul x4 4611686018427387904) x6 (x7 + 1)))
set_option maxRecDepth 100000 in
set_option maxHeartbeats 4000000 in
theorem tl_bitsOf_9 {h : mj_H} {r : Int32} {K : Int32 → UInt64 → Int32 → Option Int32} (hK : (∀ (x2 : Int32) (x4 : UInt64) (x6 : Int32), K x2 x4 x6 = some r → mj_W M_Mo_bitsOf (mj_q (some (.int r)) h) (1, 24, none) 0 0 29 [none, none, some (.int x2), none, some (.double x4), none, some (.int x6), none] [] h)) : ∀ (n : Nat) (x2 : Int32) (x3 : Int32) (x4 : UInt64) (x6 : Int32) (x7 : Int32), l_bitsOf_9 K n x2 x3 x4 x6 x7 = some r → mj_W M_Mo_bitsOf (mj_q (some (.int r)) h) (1, 24, none) 0 0 9 [none, none, some (.int x2), some (.int x3), some (.double x4), none, some (.int x6), some (.int x7)] [] h := by
  intro n
  induction n with
  | zero =>
    intro x2 x3 x4 x6 x7 hk
    cases hk
  | succ n hbk =>
    intro x2 x3 x4 x6 x7 hk
    rw [l_bitsOf_9] at hk
    refine mj_iload d_Mo_bitsOf_9 rfl ?_
    refine mj_iload_n d_Mo_bitsOf_11 rfl ?_
    refine mj_icmp_ge (tgt := 29) d_Mo_bitsOf_12 (by decide) (fun c_12 => ?_) (fun c_12 => ?_)
    · replace hk := og_pos c_12 hk
      refine mj_fg 3 (L' := [none, none, some (.int x2), none, some (.double x4), none, some (.int x6), some (.int x7)]) rfl ?_
      refine mj_fg 7 (L' := [none, none, some (.int x2), none, some (.double x4), none, some (.int x6), none]) rfl ?_
      exact hK _ _ _ hk
    · replace hk := og_neg c_12 hk
      refine mj_dload d_Mo_bitsOf_15 rfl ?_
      refine mj_ldc2d d_Mo_bitsOf_17 kd_Mo_64 ?_
      have q1 := og_1 hk
      replace hk := og_2 hk
      refine mj_dmul d_Mo_bitsOf_20 q1 ?_
      refine mj_dstore (L' := [none, none, some (.int x2), some (.int x3), some (.double (FP.dmul x4 4611686018427387904)), none, some (.int x6), some (.int x7)]) d_Mo_bitsOf_21 (by decide) rfl rfl ?_
      refine mj_iinc (x := x7) (v := x7 + 1) (L' := [none, none, some (.int x2), some (.int x3), some (.double (FP.dmul x4 4611686018427387904)), none, some (.int x6), some (.int (x7 + 1))]) d_Mo_bitsOf_23 rfl rfl (by decide) rfl rfl ?_
      refine mj_goto (tgt := 9) d_Mo_bitsOf_26 (by decide) ?_
      exact hbk _ _ _ _ _ hk
noncomputable def l_bitsOf_29 (K : Int32 → UInt64 → Int32 → Option Int32) : Nat → Int32 → UInt64 → Int32 → Option Int32
  | 0, _, _, _ => none
  | n + 1, x2, x4, x6 => if ((Op.cmpValue (FP.dcmp x4 ((FP.i2d (2 * x2)))) .l)) < 0 then (K x2 x4 x6) else (og (vf_n64 (FP.ddiv x4 4611686018427387904)) ((fun x2 x4 x6 => l_bitsOf_29 K n x2 x4 x6) x2 (FP.ddiv x4 4611686018427387904) (x6 + 1)))
set_option maxRecDepth 100000 in
set_option maxHeartbeats 4000000 in
theorem tl_bitsOf_29 {h : mj_H} {r : Int32} {K : Int32 → UInt64 → Int32 → Option Int32} (hK : (∀ (x2 : Int32) (x4 : UInt64) (x6 : Int32), K x2 x4 x6 = some r → mj_W M_Mo_bitsOf (mj_q (some (.int r)) h) (1, 24, none) 0 0 53 [none, none, some (.int x2), none, some (.double x4), none, some (.int x6), none] [] h)) : ∀ (n : Nat) (x2 : Int32) (x4 : UInt64) (x6 : Int32), l_bitsOf_29 K n x2 x4 x6 = some r → mj_W M_Mo_bitsOf (mj_q (some (.int r)) h) (1, 24, none) 0 0 29 [none, none, some (.int x2), none, some (.double x4), none, some (.int x6), none] [] h := by
  intro n
  induction n with
  | zero =>
    intro x2 x4 x6 hk
    cases hk
  | succ n hbk =>
    intro x2 x4 x6 hk
    rw [l_bitsOf_29] at hk
    refine mj_dload d_Mo_bitsOf_29 rfl ?_
    refine mj_iconst (v := 2) d_Mo_bitsOf_31 (by decide) ?_
    refine mj_iload_n d_Mo_bitsOf_32 rfl ?_
    refine mj_imul d_Mo_bitsOf_33 ?_
    refine mj_i2d d_Mo_bitsOf_34 ?_
    refine mj_dcmp d_Mo_bitsOf_35 ?_
    refine mj_if_lt (tgt := 53) d_Mo_bitsOf_36 (by decide) (fun c_36 => ?_) (fun c_36 => ?_)
    · replace hk := og_pos c_36 hk
      exact hK _ _ _ hk
    · replace hk := og_neg c_36 hk
      refine mj_dload d_Mo_bitsOf_39 rfl ?_
      refine mj_ldc2d d_Mo_bitsOf_41 kd_Mo_64 ?_
      have q6 := og_1 hk
      replace hk := og_2 hk
      refine mj_ddiv d_Mo_bitsOf_44 q6 ?_
      refine mj_dstore (L' := [none, none, some (.int x2), none, some (.double (FP.ddiv x4 4611686018427387904)), none, some (.int x6), none]) d_Mo_bitsOf_45 (by decide) rfl rfl ?_
      refine mj_iinc (x := x6) (v := x6 + 1) (L' := [none, none, some (.int x2), none, some (.double (FP.ddiv x4 4611686018427387904)), none, some (.int (x6 + 1)), none]) d_Mo_bitsOf_47 rfl rfl (by decide) rfl rfl ?_
      refine mj_goto (tgt := 29) d_Mo_bitsOf_50 (by decide) ?_
      exact hbk _ _ _ hk
noncomputable def r_bitsOf (x0 : UInt64) (x2 : Int32) (x3 : Int32) : Option Int32 := l_bitsOf_9 (fun y3 y4 y5 => l_bitsOf_29 (fun y8 y9 y10 => (r_nearest y9).bind (fun z11 => some ((((y8 * (y10 - 1))) + z11)))) 2000 y3 y4 y5) 2000 x2 x3 x0 1 0
set_option maxRecDepth 100000 in
set_option maxHeartbeats 4000000 in
theorem tm_bitsOf {h : mj_H} {r : Int32} {x0 : UInt64} {x2 : Int32} {x3 : Int32} (hk : r_bitsOf x0 x2 x3 = some r) : mj_Met M_Mo_bitsOf (1, 24, none) 0 0 [.double x0, .int x2, .int x3] h (mj_q (some (.int r)) h) := by
  unfold r_bitsOf at hk
  refine mj_enter (r := 4) rfl rfl (by decide) rfl ?_
  show mj_W M_Mo_bitsOf _ _ _ _ 0 [some (.double x0), none, some (.int x2), some (.int x3), none, none, none, none] [] h
  refine mj_dload_n d_Mo_bitsOf_0 rfl ?_
  refine mj_dstore (L' := [some (.double x0), none, some (.int x2), some (.int x3), some (.double x0), none, none, none]) d_Mo_bitsOf_1 (by decide) rfl rfl ?_
  refine mj_iconst (v := 1) d_Mo_bitsOf_3 (by decide) ?_
  refine mj_istore (L' := [some (.double x0), none, some (.int x2), some (.int x3), some (.double x0), none, some (.int 1), none]) d_Mo_bitsOf_4 (by decide) rfl rfl ?_
  refine mj_iconst (v := 0) d_Mo_bitsOf_6 (by decide) ?_
  refine mj_istore (L' := [some (.double x0), none, some (.int x2), some (.int x3), some (.double x0), none, some (.int 1), some (.int 0)]) d_Mo_bitsOf_7 (by decide) rfl rfl ?_
  refine mj_fg 0 (L' := [none, none, some (.int x2), some (.int x3), some (.double x0), none, some (.int 1), some (.int 0)]) rfl ?_
  refine tl_bitsOf_9 ?_ 2000 _ _ _ _ _ hk
  intro y3 y4 y5 hk
  refine tl_bitsOf_29 ?_ 2000 _ _ _ hk
  intro y8 y9 y10 hk
  refine mj_dload d_Mo_bitsOf_53 rfl ?_
  obtain ⟨z11, hz11, hk⟩ := og_b hk
  refine mj_cS (S := []) (S1 := [.int z11]) (tm_nearest hz11) d_Mo_bitsOf_55 cw_Mo_nearest ml_Mo_66 st_Mo_nearest (by decide) rfl (Nat.le_of_ble_eq_true rfl) rfl rfl ?_
  refine mj_istore (L' := [none, none, some (.int y8), none, some (.double y9), none, some (.int y10), some (.int z11)]) d_Mo_bitsOf_58 (by decide) rfl rfl ?_
  refine mj_iload_n d_Mo_bitsOf_60 rfl ?_
  refine mj_iload d_Mo_bitsOf_61 rfl ?_
  refine mj_iconst (v := 1) d_Mo_bitsOf_63 (by decide) ?_
  refine mj_isub d_Mo_bitsOf_64 ?_
  refine mj_imul d_Mo_bitsOf_65 ?_
  refine mj_iload d_Mo_bitsOf_66 rfl ?_
  refine mj_iadd d_Mo_bitsOf_68 ?_
  cases hk
  exact mj_iret rfl d_Mo_bitsOf_69 ⟨rfl, rfl⟩
noncomputable def j_bitsFor_97 (x5 : Int32) : Option Int32 := some x5
set_option maxRecDepth 100000 in
set_option maxHeartbeats 4000000 in
theorem tj_bitsFor_97 {h : mj_H} {r : Int32} {x5 : Int32} (hk : j_bitsFor_97 x5 = some r) : mj_W M_Mo_bitsFor (mj_q (some (.int r)) h) (2, 51, none) 0 0 97 [none, none, none, none, none, some (.int x5)] [] h := by
  unfold j_bitsFor_97 at hk
  refine mj_iload d_Mo_bitsFor_97 rfl ?_
  cases hk
  exact mj_iret rfl d_Mo_bitsFor_99 ⟨rfl, rfl⟩
noncomputable def j_bitsFor_84 (x0 : Int32) (x1 : UInt64) (s0 : Int32) : Option Int32 := if s0 = 0 then (j_bitsFor_97 s0) else (if ((Op.cmpValue (FP.dcmp x1 FP.dconst0) .l)) < 0 then (if x0 = 1 then (some ((s0 ||| (-2147483648)))) else (some (s0 + 32768))) else (j_bitsFor_97 s0))
set_option maxRecDepth 100000 in
set_option maxHeartbeats 4000000 in
theorem tj_bitsFor_84 {h : mj_H} {r : Int32} {x0 : Int32} {x1 : UInt64} {s0 : Int32} (hk : j_bitsFor_84 x0 x1 s0 = some r) : mj_W M_Mo_bitsFor (mj_q (some (.int r)) h) (2, 51, none) 0 0 84 [some (.int x0), some (.double x1), none, none, none, none] [.int s0] h := by
  unfold j_bitsFor_84 at hk
  refine mj_istore (L' := [some (.int x0), some (.double x1), none, none, none, some (.int s0)]) d_Mo_bitsFor_84 (by decide) rfl rfl ?_
  refine mj_iload d_Mo_bitsFor_86 rfl ?_
  refine mj_if_eq (tgt := 97) d_Mo_bitsFor_88 (by decide) (fun c_88 => ?_) (fun c_88 => ?_)
  · replace hk := og_pos c_88 hk
    refine mj_fg 0 (L' := [none, some (.double x1), none, none, none, some (.int s0)]) rfl ?_
    refine mj_fg 1 (L' := [none, none, none, none, none, some (.int s0)]) rfl ?_
    exact tj_bitsFor_97 hk
  · replace hk := og_neg c_88 hk
    refine mj_dload_n d_Mo_bitsFor_91 rfl ?_
    refine mj_dconst0 d_Mo_bitsFor_92 ?_
    refine mj_dcmp d_Mo_bitsFor_93 ?_
    refine mj_if_lt (tgt := 100) d_Mo_bitsFor_94 (by decide) (fun c_94 => ?_) (fun c_94 => ?_)
    · replace hk := og_pos c_94 hk
      refine mj_iload_n d_Mo_bitsFor_100 rfl ?_
      refine mj_iconst (v := 1) d_Mo_bitsFor_101 (by decide) ?_
      refine mj_icmp_ne (tgt := 113) d_Mo_bitsFor_102 (by decide) (fun c_102 => ?_) (fun c_102 => ?_)
      · replace hk := og_neg c_102 hk
        refine mj_iload d_Mo_bitsFor_113 rfl ?_
        refine mj_ldc d_Mo_bitsFor_115 k_Mo_81 ?_
        refine mj_iadd d_Mo_bitsFor_117 ?_
        cases hk
        exact mj_iret rfl d_Mo_bitsFor_118 ⟨rfl, rfl⟩
      · replace hk := og_pos c_102 hk
        refine mj_iload d_Mo_bitsFor_105 rfl ?_
        refine mj_ldc d_Mo_bitsFor_107 k_Mo_80 ?_
        refine mj_ior d_Mo_bitsFor_109 ?_
        refine mj_goto (tgt := 118) d_Mo_bitsFor_110 (by decide) ?_
        cases hk
        exact mj_iret rfl d_Mo_bitsFor_118 ⟨rfl, rfl⟩
    · replace hk := og_neg c_94 hk
      refine mj_fg 0 (L' := [none, some (.double x1), none, none, none, some (.int s0)]) rfl ?_
      refine mj_fg 1 (L' := [none, none, none, none, none, some (.int s0)]) rfl ?_
      exact tj_bitsFor_97 hk
noncomputable def j_bitsFor_12 (x0 : Int32) (x1 : UInt64) (s0 : UInt64) : Option Int32 := if x0 = 2 then (if 0 ≤ ((Op.cmpValue (FP.dcmp x1 FP.dconst0) .g)) then (if ((Op.cmpValue (FP.dcmp x1 4679239875398991872) .l)) ≤ 0 then (some (FP.d2i x1)) else (some 65535)) else (some 0)) else (if x0 = 1 then ((r_bitsOf s0 8388608 149).bind (fun z2 => j_bitsFor_84 x0 x1 z2)) else (if ((Op.cmpValue (FP.dcmp s0 4679237813814689792) .l)) < 0 then ((r_bitsOf s0 1024 24).bind (fun z1 => j_bitsFor_84 x0 x1 z1)) else (j_bitsFor_84 x0 x1 31743)))
set_option maxRecDepth 100000 in
set_option maxHeartbeats 4000000 in
theorem tj_bitsFor_12 {h : mj_H} {r : Int32} {x0 : Int32} {x1 : UInt64} {s0 : UInt64} (hk : j_bitsFor_12 x0 x1 s0 = some r) : mj_W M_Mo_bitsFor (mj_q (some (.int r)) h) (2, 51, none) 0 0 12 [some (.int x0), some (.double x1), none, none, none, none] [.double s0] h := by
  unfold j_bitsFor_12 at hk
  refine mj_dstore_n (L' := [some (.int x0), some (.double x1), none, some (.double s0), none, none]) d_Mo_bitsFor_12 (by decide) rfl rfl ?_
  refine mj_iload_n d_Mo_bitsFor_13 rfl ?_
  refine mj_iconst (v := 2) d_Mo_bitsFor_14 (by decide) ?_
  refine mj_icmp_ne (tgt := 44) d_Mo_bitsFor_15 (by decide) (fun c_15 => ?_) (fun c_15 => ?_)
  · replace hk := og_neg c_15 hk
    refine mj_iload_n d_Mo_bitsFor_44 rfl ?_
    refine mj_iconst (v := 1) d_Mo_bitsFor_45 (by decide) ?_
    refine mj_icmp_ne (tgt := 61) d_Mo_bitsFor_46 (by decide) (fun c_46 => ?_) (fun c_46 => ?_)
    · replace hk := og_neg c_46 hk
      refine mj_dload_n d_Mo_bitsFor_61 rfl ?_
      refine mj_ldc2d d_Mo_bitsFor_62 kd_Mo_78 ?_
      refine mj_dcmp d_Mo_bitsFor_65 ?_
      refine mj_if_lt (tgt := 75) d_Mo_bitsFor_66 (by decide) (fun c_66 => ?_) (fun c_66 => ?_)
      · replace hk := og_pos c_66 hk
        refine mj_dload_n d_Mo_bitsFor_75 rfl ?_
        refine mj_sipush (v := 1024) d_Mo_bitsFor_76 (by decide) ?_
        refine mj_bipush (v := 24) d_Mo_bitsFor_79 (by decide) ?_
        obtain ⟨z1, hz1, hk⟩ := og_b hk
        refine mj_cS (S := []) (S1 := [.int z1]) (tm_bitsOf hz1) d_Mo_bitsFor_81 cw_Mo_bitsOf ml_Mo_74 st_Mo_bitsOf (by decide) rfl (Nat.le_of_ble_eq_true rfl) rfl rfl ?_
        refine mj_fg 3 (L' := [some (.int x0), some (.double x1), none, none, none, none]) rfl ?_
        exact tj_bitsFor_84 hk
      · replace hk := og_neg c_66 hk
        refine mj_sipush (v := 31743) d_Mo_bitsFor_69 (by decide) ?_
        refine mj_goto (tgt := 84) d_Mo_bitsFor_72 (by decide) ?_
        refine mj_fg 3 (L' := [some (.int x0), some (.double x1), none, none, none, none]) rfl ?_
        exact tj_bitsFor_84 hk
    · replace hk := og_pos c_46 hk
      refine mj_dload_n d_Mo_bitsFor_49 rfl ?_
      refine mj_ldc d_Mo_bitsFor_50 k_Mo_73 ?_
      refine mj_sipush (v := 149) d_Mo_bitsFor_52 (by decide) ?_
      obtain ⟨z2, hz2, hk⟩ := og_b hk
      refine mj_cS (S := []) (S1 := [.int z2]) (tm_bitsOf hz2) d_Mo_bitsFor_55 cw_Mo_bitsOf ml_Mo_74 st_Mo_bitsOf (by decide) rfl (Nat.le_of_ble_eq_true rfl) rfl rfl ?_
      refine mj_goto (tgt := 84) d_Mo_bitsFor_58 (by decide) ?_
      refine mj_fg 3 (L' := [some (.int x0), some (.double x1), none, none, none, none]) rfl ?_
      exact tj_bitsFor_84 hk
  · replace hk := og_pos c_15 hk
    refine mj_dload_n d_Mo_bitsFor_18 rfl ?_
    refine mj_dconst0 d_Mo_bitsFor_19 ?_
    refine mj_dcmp d_Mo_bitsFor_20 ?_
    refine mj_if_ge (tgt := 28) d_Mo_bitsFor_21 (by decide) (fun c_21 => ?_) (fun c_21 => ?_)
    · replace hk := og_pos c_21 hk
      refine mj_dload_n d_Mo_bitsFor_28 rfl ?_
      refine mj_ldc2d d_Mo_bitsFor_29 kd_Mo_70 ?_
      refine mj_dcmp d_Mo_bitsFor_32 ?_
      refine mj_if_le (tgt := 41) d_Mo_bitsFor_33 (by decide) (fun c_33 => ?_) (fun c_33 => ?_)
      · replace hk := og_pos c_33 hk
        refine mj_dload_n d_Mo_bitsFor_41 rfl ?_
        refine mj_d2i d_Mo_bitsFor_42 ?_
        cases hk
        exact mj_iret rfl d_Mo_bitsFor_43 ⟨rfl, rfl⟩
      · replace hk := og_neg c_33 hk
        refine mj_ldc d_Mo_bitsFor_36 k_Mo_72 ?_
        refine mj_goto (tgt := 43) d_Mo_bitsFor_38 (by decide) ?_
        cases hk
        exact mj_iret rfl d_Mo_bitsFor_43 ⟨rfl, rfl⟩
    · replace hk := og_neg c_21 hk
      refine mj_iconst (v := 0) d_Mo_bitsFor_24 (by decide) ?_
      refine mj_goto (tgt := 43) d_Mo_bitsFor_25 (by decide) ?_
      cases hk
      exact mj_iret rfl d_Mo_bitsFor_43 ⟨rfl, rfl⟩
noncomputable def r_bitsFor (x0 : Int32) (x1 : UInt64) : Option Int32 := if 0 ≤ ((Op.cmpValue (FP.dcmp x1 FP.dconst0) .g)) then (j_bitsFor_12 x0 x1 x1) else (j_bitsFor_12 x0 x1 (FP.dneg x1))
set_option maxRecDepth 100000 in
set_option maxHeartbeats 4000000 in
theorem tm_bitsFor {h : mj_H} {r : Int32} {x0 : Int32} {x1 : UInt64} (hk : r_bitsFor x0 x1 = some r) : mj_Met M_Mo_bitsFor (2, 51, none) 0 0 [.int x0, .double x1] h (mj_q (some (.int r)) h) := by
  unfold r_bitsFor at hk
  refine mj_enter (r := 3) rfl rfl (by decide) rfl ?_
  show mj_W M_Mo_bitsFor _ _ _ _ 0 [some (.int x0), some (.double x1), none, none, none, none] [] h
  refine mj_dload_n d_Mo_bitsFor_0 rfl ?_
  refine mj_dconst0 d_Mo_bitsFor_1 ?_
  refine mj_dcmp d_Mo_bitsFor_2 ?_
  refine mj_if_ge (tgt := 11) d_Mo_bitsFor_3 (by decide) (fun c_3 => ?_) (fun c_3 => ?_)
  · replace hk := og_pos c_3 hk
    refine mj_dload_n d_Mo_bitsFor_11 rfl ?_
    exact tj_bitsFor_12 hk
  · replace hk := og_neg c_3 hk
    refine mj_dload_n d_Mo_bitsFor_6 rfl ?_
    refine mj_dneg d_Mo_bitsFor_7 ?_
    refine mj_goto (tgt := 12) d_Mo_bitsFor_8 (by decide) ?_
    exact tj_bitsFor_12 hk
noncomputable def l_valueOf_37 (K : Int32 → UInt64 → Option UInt64) : Nat → Int32 → UInt64 → Int32 → Option UInt64
  | 0, _, _, _ => none
  | n + 1, x1, x5, x7 => if x7 ≤ 1 then (K x1 x5) else (og (vf_n64 (FP.dmul x5 4611686018427387904)) ((fun x1 x5 x7 => l_valueOf_37 K n x1 x5 x7) x1 (FP.dmul x5 4611686018427387904) ((x7 + (-1)))))
set_option maxRecDepth 100000 in
set_option maxHeartbeats 4000000 in
theorem tl_valueOf_37 {h : mj_H} {r : UInt64} {K : Int32 → UInt64 → Option UInt64} (hK : (∀ (x1 : Int32) (x5 : UInt64), K x1 x5 = some r → mj_W M_Mo_valueOf (mj_q (some (.double r)) h) (0, 0, none) 0 0 57 [none, some (.int x1), none, none, none, some (.double x5), none, none] [] h)) : ∀ (n : Nat) (x1 : Int32) (x5 : UInt64) (x7 : Int32), l_valueOf_37 K n x1 x5 x7 = some r → mj_W M_Mo_valueOf (mj_q (some (.double r)) h) (0, 0, none) 0 0 37 [none, some (.int x1), none, none, none, some (.double x5), none, some (.int x7)] [] h := by
  intro n
  induction n with
  | zero =>
    intro x1 x5 x7 hk
    cases hk
  | succ n hbk =>
    intro x1 x5 x7 hk
    rw [l_valueOf_37] at hk
    refine mj_iload d_Mo_valueOf_37 rfl ?_
    refine mj_iconst (v := 1) d_Mo_valueOf_39 (by decide) ?_
    refine mj_icmp_le (tgt := 57) d_Mo_valueOf_40 (by decide) (fun c_40 => ?_) (fun c_40 => ?_)
    · replace hk := og_pos c_40 hk
      refine mj_fg 7 (L' := [none, some (.int x1), none, none, none, some (.double x5), none, none]) rfl ?_
      exact hK _ _ hk
    · replace hk := og_neg c_40 hk
      refine mj_dload d_Mo_valueOf_43 rfl ?_
      refine mj_ldc2d d_Mo_valueOf_45 kd_Mo_64 ?_
      have q3 := og_1 hk
      replace hk := og_2 hk
      refine mj_dmul d_Mo_valueOf_48 q3 ?_
      refine mj_dstore (L' := [none, some (.int x1), none, none, none, some (.double (FP.dmul x5 4611686018427387904)), none, some (.int x7)]) d_Mo_valueOf_49 (by decide) rfl rfl ?_
      refine mj_iinc (x := x7) (v := x7 + (-1)) (L' := [none, some (.int x1), none, none, none, some (.double (FP.dmul x5 4611686018427387904)), none, some (.int (x7 + (-1)))]) d_Mo_valueOf_51 rfl rfl (by decide) rfl rfl ?_
      refine mj_goto (tgt := 37) d_Mo_valueOf_54 (by decide) ?_
      exact hbk _ _ _ hk
noncomputable def l_valueOf_60 (K : UInt64 → Option UInt64) : Nat → Int32 → UInt64 → Int32 → Option UInt64
  | 0, _, _, _ => none
  | n + 1, x1, x5, x7 => if x1 ≤ x7 then (K x5) else (og (vf_n64 (FP.ddiv x5 4611686018427387904)) ((fun x1 x5 x7 => l_valueOf_60 K n x1 x5 x7) x1 (FP.ddiv x5 4611686018427387904) (x7 + 1)))
set_option maxRecDepth 100000 in
set_option maxHeartbeats 4000000 in
theorem tl_valueOf_60 {h : mj_H} {r : UInt64} {K : UInt64 → Option UInt64} (hK : (∀ (x5 : UInt64), K x5 = some r → mj_W M_Mo_valueOf (mj_q (some (.double r)) h) (0, 0, none) 0 0 80 [none, none, none, none, none, some (.double x5), none, none] [] h)) : ∀ (n : Nat) (x1 : Int32) (x5 : UInt64) (x7 : Int32), l_valueOf_60 K n x1 x5 x7 = some r → mj_W M_Mo_valueOf (mj_q (some (.double r)) h) (0, 0, none) 0 0 60 [none, some (.int x1), none, none, none, some (.double x5), none, some (.int x7)] [] h := by
  intro n
  induction n with
  | zero =>
    intro x1 x5 x7 hk
    cases hk
  | succ n hbk =>
    intro x1 x5 x7 hk
    rw [l_valueOf_60] at hk
    refine mj_iload d_Mo_valueOf_60 rfl ?_
    refine mj_iload_n d_Mo_valueOf_62 rfl ?_
    refine mj_icmp_ge (tgt := 80) d_Mo_valueOf_63 (by decide) (fun c_63 => ?_) (fun c_63 => ?_)
    · replace hk := og_pos c_63 hk
      refine mj_fg 1 (L' := [none, none, none, none, none, some (.double x5), none, some (.int x7)]) rfl ?_
      refine mj_fg 7 (L' := [none, none, none, none, none, some (.double x5), none, none]) rfl ?_
      exact hK _ hk
    · replace hk := og_neg c_63 hk
      refine mj_dload d_Mo_valueOf_66 rfl ?_
      refine mj_ldc2d d_Mo_valueOf_68 kd_Mo_64 ?_
      have q7 := og_1 hk
      replace hk := og_2 hk
      refine mj_ddiv d_Mo_valueOf_71 q7 ?_
      refine mj_dstore (L' := [none, some (.int x1), none, none, none, some (.double (FP.ddiv x5 4611686018427387904)), none, some (.int x7)]) d_Mo_valueOf_72 (by decide) rfl rfl ?_
      refine mj_iinc (x := x7) (v := x7 + 1) (L' := [none, some (.int x1), none, none, none, some (.double (FP.ddiv x5 4611686018427387904)), none, some (.int (x7 + 1))]) d_Mo_valueOf_74 rfl rfl (by decide) rfl rfl ?_
      refine mj_goto (tgt := 60) d_Mo_valueOf_77 (by decide) ?_
      exact hbk _ _ _ hk
noncomputable def j_valueOf_35 (x1 : Int32) (x5 : UInt64) (s0 : Int32) : Option UInt64 := l_valueOf_37 (fun y5 y6 => l_valueOf_60 (fun y9 => some y9) 2000 y5 y6 0) 2000 x1 x5 s0
set_option maxRecDepth 100000 in
set_option maxHeartbeats 4000000 in
theorem tj_valueOf_35 {h : mj_H} {r : UInt64} {x1 : Int32} {x5 : UInt64} {s0 : Int32} (hk : j_valueOf_35 x1 x5 s0 = some r) : mj_W M_Mo_valueOf (mj_q (some (.double r)) h) (0, 0, none) 0 0 35 [none, some (.int x1), none, none, none, some (.double x5), none, none] [.int s0] h := by
  unfold j_valueOf_35 at hk
  refine mj_istore (L' := [none, some (.int x1), none, none, none, some (.double x5), none, some (.int s0)]) d_Mo_valueOf_35 (by decide) rfl rfl ?_
  refine tl_valueOf_37 ?_ 2000 _ _ _ hk
  intro y5 y6 hk
  refine mj_iconst (v := 0) d_Mo_valueOf_57 (by decide) ?_
  refine mj_istore (L' := [none, some (.int y5), none, none, none, some (.double y6), none, some (.int 0)]) d_Mo_valueOf_58 (by decide) rfl rfl ?_
  refine tl_valueOf_60 ?_ 2000 _ _ _ hk
  intro y9 hk
  refine mj_dload d_Mo_valueOf_80 rfl ?_
  cases hk
  exact mj_dret rfl d_Mo_valueOf_82 ⟨rfl, rfl⟩
noncomputable def j_valueOf_24 (x1 : Int32) (x3 : Int32) (s0 : UInt64) : Option UInt64 := if x3 = 0 then (j_valueOf_35 x1 s0 1) else (j_valueOf_35 x1 s0 x3)
set_option maxRecDepth 100000 in
set_option maxHeartbeats 4000000 in
theorem tj_valueOf_24 {h : mj_H} {r : UInt64} {x1 : Int32} {x3 : Int32} {s0 : UInt64} (hk : j_valueOf_24 x1 x3 s0 = some r) : mj_W M_Mo_valueOf (mj_q (some (.double r)) h) (0, 0, none) 0 0 24 [none, some (.int x1), none, some (.int x3), none, none, none, none] [.double s0] h := by
  unfold j_valueOf_24 at hk
  refine mj_dstore (L' := [none, some (.int x1), none, some (.int x3), none, some (.double s0), none, none]) d_Mo_valueOf_24 (by decide) rfl rfl ?_
  refine mj_iload_n d_Mo_valueOf_26 rfl ?_
  refine mj_if_ne (tgt := 34) d_Mo_valueOf_27 (by decide) (fun c_27 => ?_) (fun c_27 => ?_)
  · replace hk := og_neg c_27 hk
    refine mj_iload_n d_Mo_valueOf_34 rfl ?_
    refine mj_fg 3 (L' := [none, some (.int x1), none, none, none, some (.double s0), none, none]) rfl ?_
    exact tj_valueOf_35 hk
  · replace hk := og_pos c_27 hk
    refine mj_iconst (v := 1) d_Mo_valueOf_30 (by decide) ?_
    refine mj_goto (tgt := 35) d_Mo_valueOf_31 (by decide) ?_
    refine mj_fg 3 (L' := [none, some (.int x1), none, none, none, some (.double s0), none, none]) rfl ?_
    exact tj_valueOf_35 hk
noncomputable def r_valueOf (x0 : Int32) (x1 : Int32) (x2 : Int32) : Option UInt64 := og (¬ x0 = 0) (og (¬ x0 = 0) (if (x2 / x0) = 0 then (j_valueOf_24 x1 (x2 / x0) ((FP.i2d (x2 - x2 / x0 * x0)))) else (j_valueOf_24 x1 (x2 / x0) ((FP.i2d ((x0 + (x2 - x2 / x0 * x0))))))))
set_option maxRecDepth 100000 in
set_option maxHeartbeats 4000000 in
theorem tm_valueOf {h : mj_H} {r : UInt64} {x0 : Int32} {x1 : Int32} {x2 : Int32} (hk : r_valueOf x0 x1 x2 = some r) : mj_Met M_Mo_valueOf (0, 0, none) 0 0 [.int x0, .int x1, .int x2] h (mj_q (some (.double r)) h) := by
  unfold r_valueOf at hk
  refine mj_enter (r := 5) rfl rfl (by decide) rfl ?_
  show mj_W M_Mo_valueOf _ _ _ _ 0 [some (.int x0), some (.int x1), some (.int x2), none, none, none, none, none] [] h
  refine mj_iload_n d_Mo_valueOf_0 rfl ?_
  refine mj_iload_n d_Mo_valueOf_1 rfl ?_
  have q1 := og_1 hk
  replace hk := og_2 hk
  refine mj_idiv d_Mo_valueOf_2 q1 ?_
  refine mj_istore_n (L' := [some (.int x0), some (.int x1), some (.int x2), some (.int (x2 / x0)), none, none, none, none]) d_Mo_valueOf_3 (by decide) rfl rfl ?_
  refine mj_iload_n d_Mo_valueOf_4 rfl ?_
  refine mj_iload_n d_Mo_valueOf_5 rfl ?_
  have q2 := og_1 hk
  replace hk := og_2 hk
  refine mj_irem d_Mo_valueOf_6 q2 ?_
  refine mj_istore (L' := [some (.int x0), some (.int x1), some (.int x2), some (.int (x2 / x0)), some (.int (x2 - x2 / x0 * x0)), none, none, none]) d_Mo_valueOf_7 (by decide) rfl rfl ?_
  refine mj_iload_n d_Mo_valueOf_9 rfl ?_
  refine mj_if_ne (tgt := 19) d_Mo_valueOf_10 (by decide) (fun c_10 => ?_) (fun c_10 => ?_)
  · replace hk := og_neg c_10 hk
    refine mj_iload_n d_Mo_valueOf_19 rfl ?_
    refine mj_iload d_Mo_valueOf_20 rfl ?_
    refine mj_iadd d_Mo_valueOf_22 ?_
    refine mj_i2d d_Mo_valueOf_23 ?_
    refine mj_fg 0 (L' := [none, some (.int x1), some (.int x2), some (.int (x2 / x0)), some (.int (x2 - x2 / x0 * x0)), none, none, none]) rfl ?_
    refine mj_fg 2 (L' := [none, some (.int x1), none, some (.int (x2 / x0)), some (.int (x2 - x2 / x0 * x0)), none, none, none]) rfl ?_
    refine mj_fg 4 (L' := [none, some (.int x1), none, some (.int (x2 / x0)), none, none, none, none]) rfl ?_
    exact tj_valueOf_24 hk
  · replace hk := og_pos c_10 hk
    refine mj_iload d_Mo_valueOf_13 rfl ?_
    refine mj_i2d d_Mo_valueOf_15 ?_
    refine mj_goto (tgt := 24) d_Mo_valueOf_16 (by decide) ?_
    refine mj_fg 0 (L' := [none, some (.int x1), some (.int x2), some (.int (x2 / x0)), some (.int (x2 - x2 / x0 * x0)), none, none, none]) rfl ?_
    refine mj_fg 2 (L' := [none, some (.int x1), none, some (.int (x2 / x0)), some (.int (x2 - x2 / x0 * x0)), none, none, none]) rfl ?_
    refine mj_fg 4 (L' := [none, some (.int x1), none, some (.int (x2 / x0)), none, none, none, none]) rfl ?_
    exact tj_valueOf_24 hk
noncomputable def r_told (x0 : Int32) (x1 : Int32) : Option UInt64 := if x0 = 2 then (some (FP.i2d x1)) else (if x0 = 1 then ((r_valueOf 8388608 149 (x1 &&& 2147483647)).bind (fun z3 => if 0 ≤ x1 then (some z3) else (og (vf_n64 (FP.dsub FP.dconst0 z3)) (some (FP.dsub FP.dconst0 z3))))) else ((r_valueOf 1024 24 (x1 &&& 32767)).bind (fun z1 => if x1 ≤ 32767 then (some z1) else (og (vf_n64 (FP.dsub FP.dconst0 z1)) (some (FP.dsub FP.dconst0 z1))))))
set_option maxRecDepth 100000 in
set_option maxHeartbeats 4000000 in
theorem tm_told {h : mj_H} {r : UInt64} {x0 : Int32} {x1 : Int32} (hk : r_told x0 x1 = some r) : mj_Met M_Mo_told (1, 27, none) 0 0 [.int x0, .int x1] h (mj_q (some (.double r)) h) := by
  unfold r_told at hk
  refine mj_enter (r := 2) rfl rfl (by decide) rfl ?_
  show mj_W M_Mo_told _ _ _ _ 0 [some (.int x0), some (.int x1), none, none] [] h
  refine mj_iload_n d_Mo_told_0 rfl ?_
  refine mj_iconst (v := 2) d_Mo_told_1 (by decide) ?_
  refine mj_icmp_ne (tgt := 8) d_Mo_told_2 (by decide) (fun c_2 => ?_) (fun c_2 => ?_)
  · replace hk := og_neg c_2 hk
    refine mj_iload_n d_Mo_told_8 rfl ?_
    refine mj_iconst (v := 1) d_Mo_told_9 (by decide) ?_
    refine mj_icmp_ne (tgt := 38) d_Mo_told_10 (by decide) (fun c_10 => ?_) (fun c_10 => ?_)
    · replace hk := og_neg c_10 hk
      refine mj_sipush (v := 1024) d_Mo_told_38 (by decide) ?_
      refine mj_bipush (v := 24) d_Mo_told_41 (by decide) ?_
      refine mj_iload_n d_Mo_told_43 rfl ?_
      refine mj_sipush (v := 32767) d_Mo_told_44 (by decide) ?_
      refine mj_iand d_Mo_told_47 ?_
      obtain ⟨z1, hz1, hk⟩ := og_b hk
      refine mj_cS (S := []) (S1 := [.double z1]) (tm_valueOf hz1) d_Mo_told_48 cw_Mo_valueOf ml_Mo_83 st_Mo_valueOf (by decide) rfl (Nat.le_of_ble_eq_true rfl) rfl rfl ?_
      refine mj_dstore_n (L' := [some (.int x0), some (.int x1), some (.double z1), none]) d_Mo_told_51 (by decide) rfl rfl ?_
      refine mj_iload_n d_Mo_told_52 rfl ?_
      refine mj_sipush (v := 32767) d_Mo_told_53 (by decide) ?_
      refine mj_icmp_le (tgt := 65) d_Mo_told_56 (by decide) (fun c_56 => ?_) (fun c_56 => ?_)
      · replace hk := og_pos c_56 hk
        refine mj_dload_n d_Mo_told_65 rfl ?_
        cases hk
        exact mj_dret rfl d_Mo_told_66 ⟨rfl, rfl⟩
      · replace hk := og_neg c_56 hk
        refine mj_dconst0 d_Mo_told_59 ?_
        refine mj_dload_n d_Mo_told_60 rfl ?_
        have q2 := og_1 hk
        replace hk := og_2 hk
        refine mj_dsub d_Mo_told_61 q2 ?_
        refine mj_goto (tgt := 66) d_Mo_told_62 (by decide) ?_
        cases hk
        exact mj_dret rfl d_Mo_told_66 ⟨rfl, rfl⟩
    · replace hk := og_pos c_10 hk
      refine mj_ldc d_Mo_told_13 k_Mo_73 ?_
      refine mj_sipush (v := 149) d_Mo_told_15 (by decide) ?_
      refine mj_iload_n d_Mo_told_18 rfl ?_
      refine mj_ldc d_Mo_told_19 k_Mo_82 ?_
      refine mj_iand d_Mo_told_21 ?_
      obtain ⟨z3, hz3, hk⟩ := og_b hk
      refine mj_cS (S := []) (S1 := [.double z3]) (tm_valueOf hz3) d_Mo_told_22 cw_Mo_valueOf ml_Mo_83 st_Mo_valueOf (by decide) rfl (Nat.le_of_ble_eq_true rfl) rfl rfl ?_
      refine mj_dstore_n (L' := [some (.int x0), some (.int x1), some (.double z3), none]) d_Mo_told_25 (by decide) rfl rfl ?_
      refine mj_iload_n d_Mo_told_26 rfl ?_
      refine mj_if_ge (tgt := 36) d_Mo_told_27 (by decide) (fun c_27 => ?_) (fun c_27 => ?_)
      · replace hk := og_pos c_27 hk
        refine mj_dload_n d_Mo_told_36 rfl ?_
        cases hk
        exact mj_dret rfl d_Mo_told_37 ⟨rfl, rfl⟩
      · replace hk := og_neg c_27 hk
        refine mj_dconst0 d_Mo_told_30 ?_
        refine mj_dload_n d_Mo_told_31 rfl ?_
        have q4 := og_1 hk
        replace hk := og_2 hk
        refine mj_dsub d_Mo_told_32 q4 ?_
        refine mj_goto (tgt := 37) d_Mo_told_33 (by decide) ?_
        cases hk
        exact mj_dret rfl d_Mo_told_37 ⟨rfl, rfl⟩
  · replace hk := og_pos c_2 hk
    refine mj_iload_n d_Mo_told_5 rfl ?_
    refine mj_i2d d_Mo_told_6 ?_
    cases hk
    exact mj_dret rfl d_Mo_told_7 ⟨rfl, rfl⟩
