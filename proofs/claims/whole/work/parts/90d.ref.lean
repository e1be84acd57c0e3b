noncomputable def j_reordered_31 (s0 : Int32) (g : mo_G) : Option (Prod Int32 mo_G) := og (vp_in (s0 : Int32) 800) (some (((g.2 9) (s0 : Int32).toNatClampNeg), g))
set_option maxRecDepth 100000 in
set_option maxHeartbeats 4000000 in
theorem tj_reordered_31 {h : mj_H} {r : (Prod Int32 mo_G)} (hl : 39 < h.length) {s0 : Int32} {g : mo_G} (hk : j_reordered_31 s0 g = some r) : mj_W M_Mo_reordered (mj_q (some (.int r.1)) (mo_up h r.2)) (0, 0, none) 0 0 31 [some (.ref 27), none, none] [.int s0, .ref 37] (mo_up h g) := by
  unfold j_reordered_31 at hk
  have q1 := og_1 hk
  replace hk := og_2 hk
  refine mj_iald (f := (g.2 9)) d_Mo_reordered_31 (mo_a9 hl) q1 ?_
  cases hk
  exact mj_iret rfl d_Mo_reordered_32 ⟨rfl, rfl⟩
noncomputable def r_reordered (x1 : Int32) (g : mo_G) : Option (Prod Int32 mo_G) := if (((((g.1 6) + 1)) / 2)) ≤ x1 then (j_reordered_31 ((((2 * ((x1 - (((((g.1 6) + 1)) / 2)))))) + 1)) g) else (j_reordered_31 (2 * x1) g)
set_option maxRecDepth 100000 in
set_option maxHeartbeats 4000000 in
theorem tm_reordered {h : mj_H} {r : (Prod Int32 mo_G)} (hl : 39 < h.length) {x1 : Int32} {g : mo_G} (hk : r_reordered x1 g = some r) : mj_Met M_Mo_reordered (0, 0, none) 0 0 [.ref 27, .int x1] (mo_up h g) (mj_q (some (.int r.1)) (mo_up h r.2)) := by
  unfold r_reordered at hk
  refine mj_enter (r := 1) rfl rfl (by decide) rfl ?_
  show mj_W M_Mo_reordered _ _ _ _ 0 [some (.ref 27), some (.int x1), none] [] (mo_up h g)
  refine mj_aload_n d_Mo_reordered_0 rfl ?_
  refine mj_get ok_Mo (k := 18) (v := .int (g.1 6)) (by decide) fl_Mo_110 d_Mo_reordered_1 (mo_h hl) rfl ?_
  refine mj_iconst (v := 1) d_Mo_reordered_4 (by decide) ?_
  refine mj_iadd d_Mo_reordered_5 ?_
  refine mj_iconst (v := 2) d_Mo_reordered_6 (by decide) ?_
  refine mj_idiv d_Mo_reordered_7 (by decide) ?_
  refine mj_istore_n (L' := [some (.ref 27), some (.int x1), some (.int ((((g.1 6) + 1)) / 2))]) d_Mo_reordered_8 (by decide) rfl rfl ?_
  refine mj_aload_n d_Mo_reordered_9 rfl ?_
  refine mj_get ok_Mo (k := 15) (v := .ref 37) (by decide) fl_Mo_50 d_Mo_reordered_10 (mo_h hl) rfl ?_
  refine mj_iload_n d_Mo_reordered_13 rfl ?_
  refine mj_iload_n d_Mo_reordered_14 rfl ?_
  refine mj_icmp_ge (tgt := 24) d_Mo_reordered_15 (by decide) (fun c_15 => ?_) (fun c_15 => ?_)
  · replace hk := og_pos c_15 hk
    refine mj_iconst (v := 2) d_Mo_reordered_24 (by decide) ?_
    refine mj_iload_n d_Mo_reordered_25 rfl ?_
    refine mj_iload_n d_Mo_reordered_26 rfl ?_
    refine mj_isub d_Mo_reordered_27 ?_
    refine mj_imul d_Mo_reordered_28 ?_
    refine mj_iconst (v := 1) d_Mo_reordered_29 (by decide) ?_
    refine mj_iadd d_Mo_reordered_30 ?_
    refine mj_fg 1 (L' := [some (.ref 27), none, some (.int ((((g.1 6) + 1)) / 2))]) rfl ?_
    refine mj_fg 2 (L' := [some (.ref 27), none, none]) rfl ?_
    exact tj_reordered_31 hl hk
  · replace hk := og_neg c_15 hk
    refine mj_iconst (v := 2) d_Mo_reordered_18 (by decide) ?_
    refine mj_iload_n d_Mo_reordered_19 rfl ?_
    refine mj_imul d_Mo_reordered_20 ?_
    refine mj_goto (tgt := 31) d_Mo_reordered_21 (by decide) ?_
    refine mj_fg 1 (L' := [some (.ref 27), none, some (.int ((((g.1 6) + 1)) / 2))]) rfl ?_
    refine mj_fg 2 (L' := [some (.ref 27), none, none]) rfl ?_
    exact tj_reordered_31 hl hk
noncomputable def r_prepared (x1 : Int32) (g : mo_G) : Option (Prod Int32 mo_G) := if x1 = 0 then ((r_reordered 0 g).bind (fun z3 => some (z3.1, z3.2))) else ((r_reordered x1 g).bind (fun z1 => (r_reordered (x1 - 1) z1.2).bind (fun z2 => some (((((z1.1 - z2.1) + 128)) &&& 255), z2.2))))
set_option maxRecDepth 100000 in
set_option maxHeartbeats 4000000 in
theorem tm_prepared {h : mj_H} {r : (Prod Int32 mo_G)} (hl : 39 < h.length) {x1 : Int32} {g : mo_G} (hk : r_prepared x1 g = some r) : mj_Met M_Mo_prepared (1, 22, none) 0 0 [.ref 27, .int x1] (mo_up h g) (mj_q (some (.int r.1)) (mo_up h r.2)) := by
  unfold r_prepared at hk
  refine mj_enter (r := 0) rfl rfl (by decide) rfl ?_
  show mj_W M_Mo_prepared _ _ _ _ 0 [some (.ref 27), some (.int x1)] [] (mo_up h g)
  refine mj_iload_n d_Mo_prepared_0 rfl ?_
  refine mj_if_ne (tgt := 12) d_Mo_prepared_1 (by decide) (fun c_1 => ?_) (fun c_1 => ?_)
  · replace hk := og_neg c_1 hk
    refine mj_aload_n d_Mo_prepared_12 rfl ?_
    refine mj_iload_n d_Mo_prepared_13 rfl ?_
    obtain ⟨z1, hz1, hk⟩ := og_b hk
    refine mj_cV (S := []) (S1 := [.int z1.1]) (tm_reordered hl hz1) d_Mo_prepared_14 cw_Mo_reordered ml_Mo_146 im_Mo_reordered se_Mo_reordered rfl (mo_h hl) (by decide) rfl (Nat.le_of_ble_eq_true rfl) rfl rfl ?_
    refine mj_aload_n d_Mo_prepared_17 rfl ?_
    refine mj_iload_n d_Mo_prepared_18 rfl ?_
    refine mj_iconst (v := 1) d_Mo_prepared_19 (by decide) ?_
    refine mj_isub d_Mo_prepared_20 ?_
    obtain ⟨z2, hz2, hk⟩ := og_b hk
    refine mj_cV (S := [.int z1.1]) (S1 := [.int z2.1, .int z1.1]) (tm_reordered hl hz2) d_Mo_prepared_21 cw_Mo_reordered ml_Mo_146 im_Mo_reordered se_Mo_reordered rfl (mo_h hl) (by decide) rfl (Nat.le_of_ble_eq_true rfl) rfl rfl ?_
    refine mj_isub d_Mo_prepared_24 ?_
    refine mj_sipush (v := 128) d_Mo_prepared_25 (by decide) ?_
    refine mj_iadd d_Mo_prepared_28 ?_
    refine mj_sipush (v := 255) d_Mo_prepared_29 (by decide) ?_
    refine mj_iand d_Mo_prepared_32 ?_
    cases hk
    exact mj_iret rfl d_Mo_prepared_33 ⟨rfl, rfl⟩
  · replace hk := og_pos c_1 hk
    refine mj_aload_n d_Mo_prepared_4 rfl ?_
    refine mj_iconst (v := 0) d_Mo_prepared_5 (by decide) ?_
    obtain ⟨z3, hz3, hk⟩ := og_b hk
    refine mj_cV (S := []) (S1 := [.int z3.1]) (tm_reordered hl hz3) d_Mo_prepared_6 cw_Mo_reordered ml_Mo_146 im_Mo_reordered se_Mo_reordered rfl (mo_h hl) (by decide) rfl (Nat.le_of_ble_eq_true rfl) rfl rfl ?_
    refine mj_goto (tgt := 33) d_Mo_prepared_9 (by decide) ?_
    cases hk
    exact mj_iret rfl d_Mo_prepared_33 ⟨rfl, rfl⟩
noncomputable def l_alike_10 (K : Int32 → Int32 → mo_G → Option (Prod Int32 mo_G)) : Nat → Int32 → Int32 → Int32 → mo_G → Option (Prod Int32 mo_G)
  | 0, _, _, _, _ => none
  | n + 1, x1, x2, x3, g => if (g.1 6) ≤ x2 then (K x1 x2 g) else (if (x1 + 128) ≤ x2 then (K x1 x2 g) else ((r_prepared x2 g).bind (fun z2 => if z2.1 = x3 then ((fun x1 x2 x3 g => l_alike_10 K n x1 x2 x3 g) x1 (x2 + 1) x3 z2.2) else (K x1 x2 z2.2))))
set_option maxRecDepth 100000 in
set_option maxHeartbeats 4000000 in
theorem tl_alike_10 {h : mj_H} {r : (Prod Int32 mo_G)} (hl : 39 < h.length) {K : Int32 → Int32 → mo_G → Option (Prod Int32 mo_G)} (hK : (∀ (x1 : Int32) (x2 : Int32) (g : mo_G), K x1 x2 g = some r → mj_W M_Mo_alike (mj_q (some (.int r.1)) (mo_up h r.2)) (2, 43, none) 0 0 42 [some (.ref 27), some (.int x1), some (.int x2), none] [] (mo_up h g))) : ∀ (n : Nat) (x1 : Int32) (x2 : Int32) (x3 : Int32) (g : mo_G), l_alike_10 K n x1 x2 x3 g = some r → mj_W M_Mo_alike (mj_q (some (.int r.1)) (mo_up h r.2)) (2, 43, none) 0 0 10 [some (.ref 27), some (.int x1), some (.int x2), some (.int x3)] [] (mo_up h g) := by
  intro n
  induction n with
  | zero =>
    intro x1 x2 x3 g hk
    cases hk
  | succ n hbk =>
    intro x1 x2 x3 g hk
    rw [l_alike_10] at hk
    refine mj_iload_n d_Mo_alike_10 rfl ?_
    refine mj_aload_n d_Mo_alike_11 rfl ?_
    refine mj_get ok_Mo (k := 18) (v := .int (g.1 6)) (by decide) fl_Mo_110 d_Mo_alike_12 (mo_h hl) rfl ?_
    refine mj_icmp_ge (tgt := 42) d_Mo_alike_15 (by decide) (fun c_15 => ?_) (fun c_15 => ?_)
    · replace hk := og_pos c_15 hk
      refine mj_fg 3 (L' := [some (.ref 27), some (.int x1), some (.int x2), none]) rfl ?_
      exact hK _ _ _ hk
    · replace hk := og_neg c_15 hk
      refine mj_iload_n d_Mo_alike_18 rfl ?_
      refine mj_iload_n d_Mo_alike_19 rfl ?_
      refine mj_sipush (v := 128) d_Mo_alike_20 (by decide) ?_
      refine mj_iadd d_Mo_alike_23 ?_
      refine mj_icmp_ge (tgt := 42) d_Mo_alike_24 (by decide) (fun c_24 => ?_) (fun c_24 => ?_)
      · replace hk := og_pos c_24 hk
        refine mj_fg 3 (L' := [some (.ref 27), some (.int x1), some (.int x2), none]) rfl ?_
        exact hK _ _ _ hk
      · replace hk := og_neg c_24 hk
        refine mj_aload_n d_Mo_alike_27 rfl ?_
        refine mj_iload_n d_Mo_alike_28 rfl ?_
        obtain ⟨z2, hz2, hk⟩ := og_b hk
        refine mj_cV (S := []) (S1 := [.int z2.1]) (tm_prepared hl hz2) d_Mo_alike_29 cw_Mo_prepared ml_Mo_149 im_Mo_prepared se_Mo_prepared rfl (mo_h hl) (by decide) rfl (Nat.le_of_ble_eq_true rfl) rfl rfl ?_
        refine mj_iload_n d_Mo_alike_32 rfl ?_
        refine mj_icmp_ne (tgt := 42) d_Mo_alike_33 (by decide) (fun c_33 => ?_) (fun c_33 => ?_)
        · replace hk := og_neg c_33 hk
          refine mj_fg 3 (L' := [some (.ref 27), some (.int x1), some (.int x2), none]) rfl ?_
          exact hK _ _ _ hk
        · replace hk := og_pos c_33 hk
          refine mj_iinc (x := x2) (v := x2 + 1) (L' := [some (.ref 27), some (.int x1), some (.int (x2 + 1)), some (.int x3)]) d_Mo_alike_36 rfl rfl (by decide) rfl rfl ?_
          refine mj_goto (tgt := 10) d_Mo_alike_39 (by decide) ?_
          exact hbk _ _ _ _ hk
noncomputable def j_alike_42 (x1 : Int32) (x2 : Int32) (g : mo_G) : Option (Prod Int32 mo_G) := some ((x2 - x1), g)
set_option maxRecDepth 100000 in
set_option maxHeartbeats 4000000 in
theorem tj_alike_42 {h : mj_H} {r : (Prod Int32 mo_G)} (hl : 39 < h.length) {x1 : Int32} {x2 : Int32} {g : mo_G} (hk : j_alike_42 x1 x2 g = some r) : mj_W M_Mo_alike (mj_q (some (.int r.1)) (mo_up h r.2)) (2, 43, none) 0 0 42 [some (.ref 27), some (.int x1), some (.int x2), none] [] (mo_up h g) := by
  unfold j_alike_42 at hk
  refine mj_iload_n d_Mo_alike_42 rfl ?_
  refine mj_iload_n d_Mo_alike_43 rfl ?_
  refine mj_isub d_Mo_alike_44 ?_
  cases hk
  exact mj_iret rfl d_Mo_alike_45 ⟨rfl, rfl⟩
noncomputable def r_alike (x1 : Int32) (g : mo_G) : Option (Prod Int32 mo_G) := (r_prepared x1 g).bind (fun z1 => l_alike_10 (fun y4 y5 g3 => j_alike_42 y4 y5 g3) 2000 x1 (x1 + 1) z1.1 z1.2)
set_option maxRecDepth 100000 in
set_option maxHeartbeats 4000000 in
theorem tm_alike {h : mj_H} {r : (Prod Int32 mo_G)} (hl : 39 < h.length) {x1 : Int32} {g : mo_G} (hk : r_alike x1 g = some r) : mj_Met M_Mo_alike (2, 43, none) 0 0 [.ref 27, .int x1] (mo_up h g) (mj_q (some (.int r.1)) (mo_up h r.2)) := by
  unfold r_alike at hk
  refine mj_enter (r := 2) rfl rfl (by decide) rfl ?_
  show mj_W M_Mo_alike _ _ _ _ 0 [some (.ref 27), some (.int x1), none, none] [] (mo_up h g)
  refine mj_iload_n d_Mo_alike_0 rfl ?_
  refine mj_iconst (v := 1) d_Mo_alike_1 (by decide) ?_
  refine mj_iadd d_Mo_alike_2 ?_
  refine mj_istore_n (L' := [some (.ref 27), some (.int x1), some (.int (x1 + 1)), none]) d_Mo_alike_3 (by decide) rfl rfl ?_
  refine mj_aload_n d_Mo_alike_4 rfl ?_
  refine mj_iload_n d_Mo_alike_5 rfl ?_
  obtain ⟨z1, hz1, hk⟩ := og_b hk
  refine mj_cV (S := []) (S1 := [.int z1.1]) (tm_prepared hl hz1) d_Mo_alike_6 cw_Mo_prepared ml_Mo_149 im_Mo_prepared se_Mo_prepared rfl (mo_h hl) (by decide) rfl (Nat.le_of_ble_eq_true rfl) rfl rfl ?_
  refine mj_istore_n (L' := [some (.ref 27), some (.int x1), some (.int (x1 + 1)), some (.int z1.1)]) d_Mo_alike_9 (by decide) rfl rfl ?_
  refine tl_alike_10 hl ?_ 2000 _ _ _ _ hk
  intro y4 y5 g3 hk
  exact tj_alike_42 hl hk
noncomputable def l_pack_73 (K : Int32 → Int32 → mo_G → Option mo_G) : Nat → Int32 → Int32 → mo_G → Option mo_G
  | 0, _, _, _ => none
  | n + 1, x1, x3, g => if (g.1 6) ≤ x3 then (K x1 x3 g) else (if (x1 + 127) ≤ x3 then (K x1 x3 g) else ((r_alike x3 g).bind (fun z2 => if 3 ≤ z2.1 then (K x1 x3 z2.2) else ((fun x1 x3 g => l_pack_73 K n x1 x3 g) x1 (x3 + 1) z2.2))))
set_option maxRecDepth 100000 in
set_option maxHeartbeats 4000000 in
theorem tl_pack_73 {h : mj_H} {r : mo_G} (hl : 39 < h.length) {K : Int32 → Int32 → mo_G → Option mo_G} (hK : (∀ (x1 : Int32) (x3 : Int32) (g : mo_G), K x1 x3 g = some r → mj_W M_Mo_pack (mj_q none (mo_up h r)) (3, 66, none) 0 0 104 [some (.ref 27), some (.int x1), none, some (.int x3), none] [] (mo_up h g))) : ∀ (n : Nat) (x1 : Int32) (x3 : Int32) (g : mo_G), l_pack_73 K n x1 x3 g = some r → mj_W M_Mo_pack (mj_q none (mo_up h r)) (3, 66, none) 0 0 73 [some (.ref 27), some (.int x1), none, some (.int x3), none] [] (mo_up h g) := by
  intro n
  induction n with
  | zero =>
    intro x1 x3 g hk
    cases hk
  | succ n hbk =>
    intro x1 x3 g hk
    rw [l_pack_73] at hk
    refine mj_iload_n d_Mo_pack_73 rfl ?_
    refine mj_aload_n d_Mo_pack_74 rfl ?_
    refine mj_get ok_Mo (k := 18) (v := .int (g.1 6)) (by decide) fl_Mo_110 d_Mo_pack_75 (mo_h hl) rfl ?_
    refine mj_icmp_ge (tgt := 104) d_Mo_pack_78 (by decide) (fun c_78 => ?_) (fun c_78 => ?_)
    · replace hk := og_pos c_78 hk
      exact hK _ _ _ hk
    · replace hk := og_neg c_78 hk
      refine mj_iload_n d_Mo_pack_81 rfl ?_
      refine mj_iload_n d_Mo_pack_82 rfl ?_
      refine mj_bipush (v := 127) d_Mo_pack_83 (by decide) ?_
      refine mj_iadd d_Mo_pack_85 ?_
      refine mj_icmp_ge (tgt := 104) d_Mo_pack_86 (by decide) (fun c_86 => ?_) (fun c_86 => ?_)
      · replace hk := og_pos c_86 hk
        exact hK _ _ _ hk
      · replace hk := og_neg c_86 hk
        refine mj_aload_n d_Mo_pack_89 rfl ?_
        refine mj_iload_n d_Mo_pack_90 rfl ?_
        obtain ⟨z2, hz2, hk⟩ := og_b hk
        refine mj_cV (S := []) (S1 := [.int z2.1]) (tm_alike hl hz2) d_Mo_pack_91 cw_Mo_alike ml_Mo_155 im_Mo_alike se_Mo_alike rfl (mo_h hl) (by decide) rfl (Nat.le_of_ble_eq_true rfl) rfl rfl ?_
        refine mj_iconst (v := 3) d_Mo_pack_94 (by decide) ?_
        refine mj_icmp_ge (tgt := 104) d_Mo_pack_95 (by decide) (fun c_95 => ?_) (fun c_95 => ?_)
        · replace hk := og_pos c_95 hk
          exact hK _ _ _ hk
        · replace hk := og_neg c_95 hk
          refine mj_iinc (x := x3) (v := x3 + 1) (L' := [some (.ref 27), some (.int x1), none, some (.int (x3 + 1)), none]) d_Mo_pack_98 rfl rfl (by decide) rfl rfl ?_
          refine mj_goto (tgt := 73) d_Mo_pack_101 (by decide) ?_
          exact hbk _ _ _ hk
noncomputable def l_pack_133 (K : Int32 → mo_G → Option mo_G) : Nat → Int32 → Int32 → mo_G → Option mo_G
  | 0, _, _, _ => none
  | n + 1, x3, x4, g => if x3 ≤ x4 then (K x3 g) else ((r_prepared x4 g).bind (fun z7 => og (vp_in ((g.1 7) : Int32) 1700) ((fun x3 x4 g => l_pack_133 K n x3 x4 g) x3 (x4 + 1) (upd z7.2.1 7 (((z7.2.1 7) + 1)), mo_uA z7.2.2 10 (upd (z7.2.2 10) ((g.1 7) : Int32).toNatClampNeg z7.1)))))
set_option maxRecDepth 100000 in
set_option maxHeartbeats 4000000 in
theorem tl_pack_133 {h : mj_H} {r : mo_G} (hl : 39 < h.length) {K : Int32 → mo_G → Option mo_G} (hK : (∀ (x3 : Int32) (g : mo_G), K x3 g = some r → mj_W M_Mo_pack (mj_q none (mo_up h r)) (3, 66, none) 0 0 170 [some (.ref 27), none, none, some (.int x3), none] [] (mo_up h g))) : ∀ (n : Nat) (x3 : Int32) (x4 : Int32) (g : mo_G), l_pack_133 K n x3 x4 g = some r → mj_W M_Mo_pack (mj_q none (mo_up h r)) (3, 66, none) 0 0 133 [some (.ref 27), none, none, some (.int x3), some (.int x4)] [] (mo_up h g) := by
  intro n
  induction n with
  | zero =>
    intro x3 x4 g hk
    cases hk
  | succ n hbk =>
    intro x3 x4 g hk
    rw [l_pack_133] at hk
    refine mj_iload d_Mo_pack_133 rfl ?_
    refine mj_iload_n d_Mo_pack_135 rfl ?_
    refine mj_icmp_ge (tgt := 170) d_Mo_pack_136 (by decide) (fun c_136 => ?_) (fun c_136 => ?_)
    · replace hk := og_pos c_136 hk
      refine mj_fg 4 (L' := [some (.ref 27), none, none, some (.int x3), none]) rfl ?_
      exact hK _ _ hk
    · replace hk := og_neg c_136 hk
      refine mj_aload_n d_Mo_pack_139 rfl ?_
      refine mj_get ok_Mo (k := 16) (v := .ref 38) (by decide) fl_Mo_53 d_Mo_pack_140 (mo_h hl) rfl ?_
      refine mj_aload_n d_Mo_pack_143 rfl ?_
      refine mj_get ok_Mo (k := 19) (v := .int (g.1 7)) (by decide) fl_Mo_152 d_Mo_pack_144 (mo_h hl) rfl ?_
      refine mj_aload_n d_Mo_pack_147 rfl ?_
      refine mj_iload d_Mo_pack_148 rfl ?_
      obtain ⟨z7, hz7, hk⟩ := og_b hk
      refine mj_cV (S := [.int (g.1 7), .ref 38]) (S1 := [.int z7.1, .int (g.1 7), .ref 38]) (tm_prepared hl hz7) d_Mo_pack_150 cw_Mo_prepared ml_Mo_149 im_Mo_prepared se_Mo_prepared rfl (mo_h hl) (by decide) rfl (Nat.le_of_ble_eq_true rfl) rfl rfl ?_
      have q8 := og_1 hk
      replace hk := og_2 hk
      refine mj_iast (f := (z7.2.2 10)) d_Mo_pack_153 (mo_a10 hl) q8 ?_
      refine mj_hp (h1 := mo_up h (z7.2.1, mo_uA z7.2.2 10 (upd (z7.2.2 10) ((g.1 7) : Int32).toNatClampNeg z7.1))) (mo_b10 (g := z7.2) hl (upd (z7.2.2 10) ((g.1 7) : Int32).toNatClampNeg z7.1)) ?_
      refine mj_aload_n d_Mo_pack_154 rfl ?_
      refine mj_dup d_Mo_pack_155 rfl ?_
      refine mj_get ok_Mo (k := 19) (v := .int (z7.2.1 7)) (by decide) fl_Mo_152 d_Mo_pack_156 (mo_h hl) rfl ?_
      refine mj_iconst (v := 1) d_Mo_pack_159 (by decide) ?_
      refine mj_iadd d_Mo_pack_160 ?_
      refine mj_put ok_Mo (k := 19) (by decide) fl_Mo_152 rfl (fun _ => rfl) (fun _ => rfl) (Nat.le_of_ble_eq_true rfl) d_Mo_pack_161 (mo_h hl) ?_
      refine mj_hp (h1 := mo_up h (upd z7.2.1 7 (((z7.2.1 7) + 1)), mo_uA z7.2.2 10 (upd (z7.2.2 10) ((g.1 7) : Int32).toNatClampNeg z7.1))) (mo_p7 (g := (z7.2.1, mo_uA z7.2.2 10 (upd (z7.2.2 10) ((g.1 7) : Int32).toNatClampNeg z7.1))) hl (((z7.2.1 7) + 1))) ?_
      refine mj_iinc (x := x4) (v := x4 + 1) (L' := [some (.ref 27), none, none, some (.int x3), some (.int (x4 + 1))]) d_Mo_pack_164 rfl rfl (by decide) rfl rfl ?_
      refine mj_goto (tgt := 133) d_Mo_pack_167 (by decide) ?_
      exact hbk _ _ _ hk
noncomputable def j_pack_104 (K : mo_G → Option mo_G) (bk : Int32 → mo_G → Option mo_G) (x1 : Int32) (x3 : Int32) (g : mo_G) : Option mo_G := og (vp_in ((g.1 7) : Int32) 1700) (l_pack_133 (fun y10 g9 => bk y10 g9) 2000 x3 x1 (upd g.1 7 (((g.1 7) + 1)), mo_uA g.2 10 (upd (g.2 10) ((g.1 7) : Int32).toNatClampNeg ((256 - (x3 - x1))))))
set_option maxRecDepth 100000 in
set_option maxHeartbeats 4000000 in
theorem tj_pack_104 {h : mj_H} {r : mo_G} (hl : 39 < h.length) {K : mo_G → Option mo_G} {bk : Int32 → mo_G → Option mo_G} (hK : (∀ (g : mo_G), K g = some r → mj_W M_Mo_pack (mj_q none (mo_up h r)) (3, 66, none) 0 0 175 [some (.ref 27), none, none, none, none] [] (mo_up h g))) (hbk : (∀ (x1 : Int32) (g : mo_G), bk x1 g = some r → mj_W M_Mo_pack (mj_q none (mo_up h r)) (3, 66, none) 0 0 7 [some (.ref 27), some (.int x1), none, none, none] [] (mo_up h g))) {x1 : Int32} {x3 : Int32} {g : mo_G} (hk : j_pack_104 K bk x1 x3 g = some r) : mj_W M_Mo_pack (mj_q none (mo_up h r)) (3, 66, none) 0 0 104 [some (.ref 27), some (.int x1), none, some (.int x3), none] [] (mo_up h g) := by
  unfold j_pack_104 at hk
  refine mj_aload_n d_Mo_pack_104 rfl ?_
  refine mj_get ok_Mo (k := 16) (v := .ref 38) (by decide) fl_Mo_53 d_Mo_pack_105 (mo_h hl) rfl ?_
  refine mj_aload_n d_Mo_pack_108 rfl ?_
  refine mj_get ok_Mo (k := 19) (v := .int (g.1 7)) (by decide) fl_Mo_152 d_Mo_pack_109 (mo_h hl) rfl ?_
  refine mj_sipush (v := 256) d_Mo_pack_112 (by decide) ?_
  refine mj_iload_n d_Mo_pack_115 rfl ?_
  refine mj_iload_n d_Mo_pack_116 rfl ?_
  refine mj_isub d_Mo_pack_117 ?_
  refine mj_isub d_Mo_pack_118 ?_
  have q6 := og_1 hk
  replace hk := og_2 hk
  refine mj_iast (f := (g.2 10)) d_Mo_pack_119 (mo_a10 hl) q6 ?_
  refine mj_hp (h1 := mo_up h (g.1, mo_uA g.2 10 (upd (g.2 10) ((g.1 7) : Int32).toNatClampNeg ((256 - (x3 - x1)))))) (mo_b10 (g := g) hl (upd (g.2 10) ((g.1 7) : Int32).toNatClampNeg ((256 - (x3 - x1))))) ?_
  refine mj_aload_n d_Mo_pack_120 rfl ?_
  refine mj_dup d_Mo_pack_121 rfl ?_
  refine mj_get ok_Mo (k := 19) (v := .int (g.1 7)) (by decide) fl_Mo_152 d_Mo_pack_122 (mo_h hl) rfl ?_
  refine mj_iconst (v := 1) d_Mo_pack_125 (by decide) ?_
  refine mj_iadd d_Mo_pack_126 ?_
  refine mj_put ok_Mo (k := 19) (by decide) fl_Mo_152 rfl (fun _ => rfl) (fun _ => rfl) (Nat.le_of_ble_eq_true rfl) d_Mo_pack_127 (mo_h hl) ?_
  refine mj_hp (h1 := mo_up h (upd g.1 7 (((g.1 7) + 1)), mo_uA g.2 10 (upd (g.2 10) ((g.1 7) : Int32).toNatClampNeg ((256 - (x3 - x1)))))) (mo_p7 (g := (g.1, mo_uA g.2 10 (upd (g.2 10) ((g.1 7) : Int32).toNatClampNeg ((256 - (x3 - x1)))))) hl (((g.1 7) + 1))) ?_
  refine mj_iload_n d_Mo_pack_130 rfl ?_
  refine mj_istore (L' := [some (.ref 27), some (.int x1), none, some (.int x3), some (.int x1)]) d_Mo_pack_131 (by decide) rfl rfl ?_
  refine mj_fg 1 (L' := [some (.ref 27), none, none, some (.int x3), some (.int x1)]) rfl ?_
  refine tl_pack_133 hl ?_ 2000 _ _ _ hk
  intro y10 g9 hk
  refine mj_iload_n d_Mo_pack_170 rfl ?_
  refine mj_istore_n (L' := [some (.ref 27), some (.int y10), none, some (.int y10), none]) d_Mo_pack_171 (by decide) rfl rfl ?_
  refine mj_goto (tgt := 7) d_Mo_pack_172 (by decide) ?_
  refine mj_fg 3 (L' := [some (.ref 27), some (.int y10), none, none, none]) rfl ?_
  exact hbk _ _ hk
noncomputable def l_pack_7 (K : mo_G → Option mo_G) : Nat → Int32 → mo_G → Option mo_G
  | 0, _, _ => none
  | n + 1, x1, g => if (g.1 6) ≤ x1 then (K g) else ((r_alike x1 g).bind (fun z1 => if z1.1 < 3 then (l_pack_73 (fun y4 y5 g3 => j_pack_104 K (fun x1 g => l_pack_7 K n x1 g) y4 y5 g3) 2000 x1 x1 z1.2) else (og (vp_in ((z1.2.1 7) : Int32) 1700) ((r_prepared x1 (z1.2.1, mo_uA z1.2.2 10 (upd (z1.2.2 10) ((z1.2.1 7) : Int32).toNatClampNeg (z1.1 - 1)))).bind (fun z12 => og (vp_in (((z1.2.1 7) + 1) : Int32) 1700) ((fun x1 g => l_pack_7 K n x1 g) (x1 + z1.1) (upd z12.2.1 7 (((z12.2.1 7) + 2)), mo_uA z12.2.2 10 (upd (z12.2.2 10) (((z1.2.1 7) + 1) : Int32).toNatClampNeg z12.1))))))))
set_option maxRecDepth 100000 in
set_option maxHeartbeats 4000000 in
theorem tl_pack_7 {h : mj_H} {r : mo_G} (hl : 39 < h.length) {K : mo_G → Option mo_G} (hK : (∀ (g : mo_G), K g = some r → mj_W M_Mo_pack (mj_q none (mo_up h r)) (3, 66, none) 0 0 175 [some (.ref 27), none, none, none, none] [] (mo_up h g))) : ∀ (n : Nat) (x1 : Int32) (g : mo_G), l_pack_7 K n x1 g = some r → mj_W M_Mo_pack (mj_q none (mo_up h r)) (3, 66, none) 0 0 7 [some (.ref 27), some (.int x1), none, none, none] [] (mo_up h g) := by
  intro n
  induction n with
  | zero =>
    intro x1 g hk
    cases hk
  | succ n hbk =>
    intro x1 g hk
    rw [l_pack_7] at hk
    refine mj_iload_n d_Mo_pack_7 rfl ?_
    refine mj_aload_n d_Mo_pack_8 rfl ?_
    refine mj_get ok_Mo (k := 18) (v := .int (g.1 6)) (by decide) fl_Mo_110 d_Mo_pack_9 (mo_h hl) rfl ?_
    refine mj_icmp_ge (tgt := 175) d_Mo_pack_12 (by decide) (fun c_12 => ?_) (fun c_12 => ?_)
    · replace hk := og_pos c_12 hk
      refine mj_fg 1 (L' := [some (.ref 27), none, none, none, none]) rfl ?_
      exact hK _ hk
    · replace hk := og_neg c_12 hk
      refine mj_aload_n d_Mo_pack_15 rfl ?_
      refine mj_iload_n d_Mo_pack_16 rfl ?_
      obtain ⟨z1, hz1, hk⟩ := og_b hk
      refine mj_cV (S := []) (S1 := [.int z1.1]) (tm_alike hl hz1) d_Mo_pack_17 cw_Mo_alike ml_Mo_155 im_Mo_alike se_Mo_alike rfl (mo_h hl) (by decide) rfl (Nat.le_of_ble_eq_true rfl) rfl rfl ?_
      refine mj_istore_n (L' := [some (.ref 27), some (.int x1), some (.int z1.1), none, none]) d_Mo_pack_20 (by decide) rfl rfl ?_
      refine mj_iload_n d_Mo_pack_21 rfl ?_
      refine mj_iconst (v := 3) d_Mo_pack_22 (by decide) ?_
      refine mj_icmp_lt (tgt := 71) d_Mo_pack_23 (by decide) (fun c_23 => ?_) (fun c_23 => ?_)
      · replace hk := og_pos c_23 hk
        refine mj_iload_n d_Mo_pack_71 rfl ?_
        refine mj_istore_n (L' := [some (.ref 27), some (.int x1), some (.int z1.1), some (.int x1), none]) d_Mo_pack_72 (by decide) rfl rfl ?_
        refine mj_fg 2 (L' := [some (.ref 27), some (.int x1), none, some (.int x1), none]) rfl ?_
        refine tl_pack_73 hl ?_ 2000 _ _ _ hk
        intro y4 y5 g3 hk
        exact tj_pack_104 hl hK hbk hk
      · replace hk := og_neg c_23 hk
        refine mj_aload_n d_Mo_pack_26 rfl ?_
        refine mj_get ok_Mo (k := 16) (v := .ref 38) (by decide) fl_Mo_53 d_Mo_pack_27 (mo_h hl) rfl ?_
        refine mj_aload_n d_Mo_pack_30 rfl ?_
        refine mj_get ok_Mo (k := 19) (v := .int (z1.2.1 7)) (by decide) fl_Mo_152 d_Mo_pack_31 (mo_h hl) rfl ?_
        refine mj_iload_n d_Mo_pack_34 rfl ?_
        refine mj_iconst (v := 1) d_Mo_pack_35 (by decide) ?_
        refine mj_isub d_Mo_pack_36 ?_
        have q11 := og_1 hk
        replace hk := og_2 hk
        refine mj_iast (f := (z1.2.2 10)) d_Mo_pack_37 (mo_a10 hl) q11 ?_
        refine mj_hp (h1 := mo_up h (z1.2.1, mo_uA z1.2.2 10 (upd (z1.2.2 10) ((z1.2.1 7) : Int32).toNatClampNeg (z1.1 - 1)))) (mo_b10 (g := z1.2) hl (upd (z1.2.2 10) ((z1.2.1 7) : Int32).toNatClampNeg (z1.1 - 1))) ?_
        refine mj_aload_n d_Mo_pack_38 rfl ?_
        refine mj_get ok_Mo (k := 16) (v := .ref 38) (by decide) fl_Mo_53 d_Mo_pack_39 (mo_h hl) rfl ?_
        refine mj_aload_n d_Mo_pack_42 rfl ?_
        refine mj_get ok_Mo (k := 19) (v := .int (z1.2.1 7)) (by decide) fl_Mo_152 d_Mo_pack_43 (mo_h hl) rfl ?_
        refine mj_iconst (v := 1) d_Mo_pack_46 (by decide) ?_
        refine mj_iadd d_Mo_pack_47 ?_
        refine mj_aload_n d_Mo_pack_48 rfl ?_
        refine mj_iload_n d_Mo_pack_49 rfl ?_
        obtain ⟨z12, hz12, hk⟩ := og_b hk
        refine mj_cV (S := [.int ((z1.2.1 7) + 1), .ref 38]) (S1 := [.int z12.1, .int ((z1.2.1 7) + 1), .ref 38]) (tm_prepared hl hz12) d_Mo_pack_50 cw_Mo_prepared ml_Mo_149 im_Mo_prepared se_Mo_prepared rfl (mo_h hl) (by decide) rfl (Nat.le_of_ble_eq_true rfl) rfl rfl ?_
        have q13 := og_1 hk
        replace hk := og_2 hk
        refine mj_iast (f := (z12.2.2 10)) d_Mo_pack_53 (mo_a10 hl) q13 ?_
        refine mj_hp (h1 := mo_up h (z12.2.1, mo_uA z12.2.2 10 (upd (z12.2.2 10) (((z1.2.1 7) + 1) : Int32).toNatClampNeg z12.1))) (mo_b10 (g := z12.2) hl (upd (z12.2.2 10) (((z1.2.1 7) + 1) : Int32).toNatClampNeg z12.1)) ?_
        refine mj_aload_n d_Mo_pack_54 rfl ?_
        refine mj_dup d_Mo_pack_55 rfl ?_
        refine mj_get ok_Mo (k := 19) (v := .int (z12.2.1 7)) (by decide) fl_Mo_152 d_Mo_pack_56 (mo_h hl) rfl ?_
        refine mj_iconst (v := 2) d_Mo_pack_59 (by decide) ?_
        refine mj_iadd d_Mo_pack_60 ?_
        refine mj_put ok_Mo (k := 19) (by decide) fl_Mo_152 rfl (fun _ => rfl) (fun _ => rfl) (Nat.le_of_ble_eq_true rfl) d_Mo_pack_61 (mo_h hl) ?_
        refine mj_hp (h1 := mo_up h (upd z12.2.1 7 (((z12.2.1 7) + 2)), mo_uA z12.2.2 10 (upd (z12.2.2 10) (((z1.2.1 7) + 1) : Int32).toNatClampNeg z12.1))) (mo_p7 (g := (z12.2.1, mo_uA z12.2.2 10 (upd (z12.2.2 10) (((z1.2.1 7) + 1) : Int32).toNatClampNeg z12.1))) hl (((z12.2.1 7) + 2))) ?_
        refine mj_iload_n d_Mo_pack_64 rfl ?_
        refine mj_iload_n d_Mo_pack_65 rfl ?_
        refine mj_iadd d_Mo_pack_66 ?_
        refine mj_istore_n (L' := [some (.ref 27), some (.int (x1 + z1.1)), some (.int z1.1), none, none]) d_Mo_pack_67 (by decide) rfl rfl ?_
        refine mj_goto (tgt := 7) d_Mo_pack_68 (by decide) ?_
        refine mj_fg 2 (L' := [some (.ref 27), some (.int (x1 + z1.1)), none, none, none]) rfl ?_
        exact hbk _ _ hk
noncomputable def r_pack (g : mo_G) : Option mo_G := l_pack_7 (fun  g14 => some g14) 2000 0 (upd g.1 7 0, g.2)
set_option maxRecDepth 100000 in
set_option maxHeartbeats 4000000 in
theorem tm_pack {h : mj_H} {r : mo_G} (hl : 39 < h.length) {g : mo_G} (hk : r_pack g = some r) : mj_Met M_Mo_pack (3, 66, none) 0 0 [.ref 27] (mo_up h g) (mj_q none (mo_up h r)) := by
  unfold r_pack at hk
  refine mj_enter (r := 4) rfl rfl (by decide) rfl ?_
  show mj_W M_Mo_pack _ _ _ _ 0 [some (.ref 27), none, none, none, none] [] (mo_up h g)
  refine mj_aload_n d_Mo_pack_0 rfl ?_
  refine mj_iconst (v := 0) d_Mo_pack_1 (by decide) ?_
  refine mj_put ok_Mo (k := 19) (by decide) fl_Mo_152 rfl (fun _ => rfl) (fun _ => rfl) (Nat.le_of_ble_eq_true rfl) d_Mo_pack_2 (mo_h hl) ?_
  refine mj_hp (h1 := mo_up h (upd g.1 7 0, g.2)) (mo_p7 (g := g) hl 0) ?_
  refine mj_iconst (v := 0) d_Mo_pack_5 (by decide) ?_
  refine mj_istore_n (L' := [some (.ref 27), some (.int 0), none, none, none]) d_Mo_pack_6 (by decide) rfl rfl ?_
  refine tl_pack_7 hl ?_ 2000 _ _ hk
  intro  g14 hk
  cases hk
  exact mj_vret rfl d_Mo_pack_175 ⟨rfl, rfl⟩
noncomputable def j_chunk_159 (K : mo_G → Option mo_G) (bk : Int32 → Int32 → Int32 → mo_G → Option mo_G) (x6 : Int32) (x7 : Int32) (x8 : Int32) (s0 : Int32) (g : mo_G) : Option mo_G := (r_write s0 g).bind (fun z7 => bk x6 x7 (x8 + 1) z7)
set_option maxRecDepth 100000 in
set_option maxHeartbeats 4000000 in
theorem tj_chunk_159 {h : mj_H} {r : mo_G} (hl : 39 < h.length) {K : mo_G → Option mo_G} {bk : Int32 → Int32 → Int32 → mo_G → Option mo_G} (hK : (∀ (g : mo_G), K g = some r → mj_W M_Mo_chunk (mj_q none (mo_up h r)) (4, 90, none) 0 0 168 [some (.ref 27), none, none, none, none, none, none, none, none] [] (mo_up h g))) (hbk : (∀ (x6 : Int32) (x7 : Int32) (x8 : Int32) (g : mo_G), bk x6 x7 x8 g = some r → mj_W M_Mo_chunk (mj_q none (mo_up h r)) (4, 90, none) 0 0 129 [some (.ref 27), none, none, none, none, none, some (.int x6), some (.int x7), some (.int x8)] [] (mo_up h g))) {x6 : Int32} {x7 : Int32} {x8 : Int32} {s0 : Int32} {g : mo_G} (hk : j_chunk_159 K bk x6 x7 x8 s0 g = some r) : mj_W M_Mo_chunk (mj_q none (mo_up h r)) (4, 90, none) 0 0 159 [some (.ref 27), none, none, none, none, none, some (.int x6), some (.int x7), some (.int x8)] [.int s0, .ref 27] (mo_up h g) := by
  unfold j_chunk_159 at hk
  obtain ⟨z7, hz7, hk⟩ := og_b hk
  refine mj_cV (S := []) (S1 := []) (tm_write hl hz7) d_Mo_chunk_159 cw_Mo_write ml_Mo_170 im_Mo_write se_Mo_write rfl (mo_h hl) (by decide) rfl (Nat.le_of_ble_eq_true rfl) rfl rfl ?_
  refine mj_iinc (x := x8) (v := x8 + 1) (L' := [some (.ref 27), none, none, none, none, none, some (.int x6), some (.int x7), some (.int (x8 + 1))]) d_Mo_chunk_162 rfl rfl (by decide) rfl rfl ?_
  refine mj_goto (tgt := 129) d_Mo_chunk_165 (by decide) ?_
  exact hbk _ _ _ _ hk
noncomputable def l_chunk_129 (K : mo_G → Option mo_G) : Nat → Int32 → Int32 → Int32 → mo_G → Option mo_G
  | 0, _, _, _, _ => none
  | n + 1, x6, x7, x8, g => if x7 ≤ x8 then (K g) else (if x6 = 0 then (og (vp_in (x8 : Int32) 1700) (j_chunk_159 K (fun x6 x7 x8 g => l_chunk_129 K n x6 x7 x8 g) x6 x7 x8 (((g.2 10) (x8 : Int32).toNatClampNeg)) g)) else (og (vp_in (x8 : Int32) 800) (j_chunk_159 K (fun x6 x7 x8 g => l_chunk_129 K n x6 x7 x8 g) x6 x7 x8 (((g.2 9) (x8 : Int32).toNatClampNeg)) g)))
set_option maxRecDepth 100000 in
set_option maxHeartbeats 4000000 in
theorem tl_chunk_129 {h : mj_H} {r : mo_G} (hl : 39 < h.length) {K : mo_G → Option mo_G} (hK : (∀ (g : mo_G), K g = some r → mj_W M_Mo_chunk (mj_q none (mo_up h r)) (4, 90, none) 0 0 168 [some (.ref 27), none, none, none, none, none, none, none, none] [] (mo_up h g))) : ∀ (n : Nat) (x6 : Int32) (x7 : Int32) (x8 : Int32) (g : mo_G), l_chunk_129 K n x6 x7 x8 g = some r → mj_W M_Mo_chunk (mj_q none (mo_up h r)) (4, 90, none) 0 0 129 [some (.ref 27), none, none, none, none, none, some (.int x6), some (.int x7), some (.int x8)] [] (mo_up h g) := by
  intro n
  induction n with
  | zero =>
    intro x6 x7 x8 g hk
    cases hk
  | succ n hbk =>
    intro x6 x7 x8 g hk
    rw [l_chunk_129] at hk
    refine mj_iload d_Mo_chunk_129 rfl ?_
    refine mj_iload d_Mo_chunk_131 rfl ?_
    refine mj_icmp_ge (tgt := 168) d_Mo_chunk_133 (by decide) (fun c_133 => ?_) (fun c_133 => ?_)
    · replace hk := og_pos c_133 hk
      refine mj_fg 6 (L' := [some (.ref 27), none, none, none, none, none, none, some (.int x7), some (.int x8)]) rfl ?_
      refine mj_fg 7 (L' := [some (.ref 27), none, none, none, none, none, none, none, some (.int x8)]) rfl ?_
      refine mj_fg 8 (L' := [some (.ref 27), none, none, none, none, none, none, none, none]) rfl ?_
      exact hK _ hk
    · replace hk := og_neg c_133 hk
      refine mj_aload_n d_Mo_chunk_136 rfl ?_
      refine mj_iload d_Mo_chunk_137 rfl ?_
      refine mj_if_eq (tgt := 152) d_Mo_chunk_139 (by decide) (fun c_139 => ?_) (fun c_139 => ?_)
      · replace hk := og_pos c_139 hk
        refine mj_aload_n d_Mo_chunk_152 rfl ?_
        refine mj_get ok_Mo (k := 16) (v := .ref 38) (by decide) fl_Mo_53 d_Mo_chunk_153 (mo_h hl) rfl ?_
        refine mj_iload d_Mo_chunk_156 rfl ?_
        have q6 := og_1 hk
        replace hk := og_2 hk
        refine mj_iald (f := (g.2 10)) d_Mo_chunk_158 (mo_a10 hl) q6 ?_
        exact tj_chunk_159 hl hK hbk hk
      · replace hk := og_neg c_139 hk
        refine mj_aload_n d_Mo_chunk_142 rfl ?_
        refine mj_get ok_Mo (k := 15) (v := .ref 37) (by decide) fl_Mo_50 d_Mo_chunk_143 (mo_h hl) rfl ?_
        refine mj_iload d_Mo_chunk_146 rfl ?_
        have q8 := og_1 hk
        replace hk := og_2 hk
        refine mj_iald (f := (g.2 9)) d_Mo_chunk_148 (mo_a9 hl) q8 ?_
        refine mj_goto (tgt := 159) d_Mo_chunk_149 (by decide) ?_
        exact tj_chunk_159 hl hK hbk hk
noncomputable def j_chunk_100 (x2 : Int32) (x6 : Int32) (s0 : Int32) (g : mo_G) : Option mo_G := (r_write x2 g).bind (fun z3 => (r_write (s0 &&& 255) z3).bind (fun z4 => (r_write ((s0 >>> (8 &&& 31))) z4).bind (fun z5 => l_chunk_129 (fun  g9 => some g9) 2000 x6 s0 0 z5)))
set_option maxRecDepth 100000 in
set_option maxHeartbeats 4000000 in
theorem tj_chunk_100 {h : mj_H} {r : mo_G} (hl : 39 < h.length) {x2 : Int32} {x6 : Int32} {s0 : Int32} {g : mo_G} (hk : j_chunk_100 x2 x6 s0 g = some r) : mj_W M_Mo_chunk (mj_q none (mo_up h r)) (4, 90, none) 0 0 100 [some (.ref 27), none, some (.int x2), none, none, none, some (.int x6), none, none] [.int s0] (mo_up h g) := by
  unfold j_chunk_100 at hk
  refine mj_istore (L' := [some (.ref 27), none, some (.int x2), none, none, none, some (.int x6), some (.int s0), none]) d_Mo_chunk_100 (by decide) rfl rfl ?_
  refine mj_aload_n d_Mo_chunk_102 rfl ?_
  refine mj_iload_n d_Mo_chunk_103 rfl ?_
  obtain ⟨z3, hz3, hk⟩ := og_b hk
  refine mj_cV (S := []) (S1 := []) (tm_write hl hz3) d_Mo_chunk_104 cw_Mo_write ml_Mo_170 im_Mo_write se_Mo_write rfl (mo_h hl) (by decide) rfl (Nat.le_of_ble_eq_true rfl) rfl rfl ?_
  refine mj_aload_n d_Mo_chunk_107 rfl ?_
  refine mj_iload d_Mo_chunk_108 rfl ?_
  refine mj_sipush (v := 255) d_Mo_chunk_110 (by decide) ?_
  refine mj_iand d_Mo_chunk_113 ?_
  obtain ⟨z4, hz4, hk⟩ := og_b hk
  refine mj_cV (S := []) (S1 := []) (tm_write hl hz4) d_Mo_chunk_114 cw_Mo_write ml_Mo_170 im_Mo_write se_Mo_write rfl (mo_h hl) (by decide) rfl (Nat.le_of_ble_eq_true rfl) rfl rfl ?_
  refine mj_aload_n d_Mo_chunk_117 rfl ?_
  refine mj_iload d_Mo_chunk_118 rfl ?_
  refine mj_bipush (v := 8) d_Mo_chunk_120 (by decide) ?_
  refine mj_ishr d_Mo_chunk_122 ?_
  obtain ⟨z5, hz5, hk⟩ := og_b hk
  refine mj_cV (S := []) (S1 := []) (tm_write hl hz5) d_Mo_chunk_123 cw_Mo_write ml_Mo_170 im_Mo_write se_Mo_write rfl (mo_h hl) (by decide) rfl (Nat.le_of_ble_eq_true rfl) rfl rfl ?_
  refine mj_iconst (v := 0) d_Mo_chunk_126 (by decide) ?_
  refine mj_istore (L' := [some (.ref 27), none, some (.int x2), none, none, none, some (.int x6), some (.int s0), some (.int 0)]) d_Mo_chunk_127 (by decide) rfl rfl ?_
  refine mj_fg 2 (L' := [some (.ref 27), none, none, none, none, none, some (.int x6), some (.int s0), some (.int 0)]) rfl ?_
  refine tl_chunk_129 hl ?_ 2000 _ _ _ _ hk
  intro  g9 hk
  cases hk
  exact mj_vret rfl d_Mo_chunk_168 ⟨rfl, rfl⟩
noncomputable def j_chunk_86 (x2 : Int32) (x5 : Int32) (x6 : Int32) (g : mo_G) : Option mo_G := if x6 = 0 then (j_chunk_100 x2 x6 (g.1 7) g) else (j_chunk_100 x2 x6 x5 g)
set_option maxRecDepth 100000 in
set_option maxHeartbeats 4000000 in
theorem tj_chunk_86 {h : mj_H} {r : mo_G} (hl : 39 < h.length) {x2 : Int32} {x5 : Int32} {x6 : Int32} {g : mo_G} (hk : j_chunk_86 x2 x5 x6 g = some r) : mj_W M_Mo_chunk (mj_q none (mo_up h r)) (4, 90, none) 0 0 86 [some (.ref 27), none, some (.int x2), none, none, some (.int x5), some (.int x6), none, none] [] (mo_up h g) := by
  unfold j_chunk_86 at hk
  refine mj_iload d_Mo_chunk_86 rfl ?_
  refine mj_if_eq (tgt := 96) d_Mo_chunk_88 (by decide) (fun c_88 => ?_) (fun c_88 => ?_)
  · replace hk := og_pos c_88 hk
    refine mj_aload_n d_Mo_chunk_96 rfl ?_
    refine mj_get ok_Mo (k := 19) (v := .int (g.1 7)) (by decide) fl_Mo_152 d_Mo_chunk_97 (mo_h hl) rfl ?_
    refine mj_fg 5 (L' := [some (.ref 27), none, some (.int x2), none, none, none, some (.int x6), none, none]) rfl ?_
    exact tj_chunk_100 hl hk
  · replace hk := og_neg c_88 hk
    refine mj_iload d_Mo_chunk_91 rfl ?_
    refine mj_goto (tgt := 100) d_Mo_chunk_93 (by decide) ?_
    refine mj_fg 5 (L' := [some (.ref 27), none, some (.int x2), none, none, none, some (.int x6), none, none]) rfl ?_
    exact tj_chunk_100 hl hk
noncomputable def j_chunk_71 (x2 : Int32) (x3 : Int32) (x4 : Int32) (x5 : Int32) (s0 : Int32) (g : mo_G) : Option mo_G := if s0 = 0 then (j_chunk_86 x2 x5 s0 g) else ((r_gather x2 x3 x4 g).bind (fun z10 => j_chunk_86 x2 x5 s0 z10))
set_option maxRecDepth 100000 in
set_option maxHeartbeats 4000000 in
theorem tj_chunk_71 {h : mj_H} {r : mo_G} (hl : 39 < h.length) {x2 : Int32} {x3 : Int32} {x4 : Int32} {x5 : Int32} {s0 : Int32} {g : mo_G} (hk : j_chunk_71 x2 x3 x4 x5 s0 g = some r) : mj_W M_Mo_chunk (mj_q none (mo_up h r)) (4, 90, none) 0 0 71 [some (.ref 27), none, some (.int x2), some (.int x3), some (.int x4), some (.int x5), none, none, none] [.int s0] (mo_up h g) := by
  unfold j_chunk_71 at hk
  refine mj_istore (L' := [some (.ref 27), none, some (.int x2), some (.int x3), some (.int x4), some (.int x5), some (.int s0), none, none]) d_Mo_chunk_71 (by decide) rfl rfl ?_
  refine mj_iload d_Mo_chunk_73 rfl ?_
  refine mj_if_eq (tgt := 86) d_Mo_chunk_75 (by decide) (fun c_75 => ?_) (fun c_75 => ?_)
  · replace hk := og_pos c_75 hk
    refine mj_fg 3 (L' := [some (.ref 27), none, some (.int x2), none, some (.int x4), some (.int x5), some (.int s0), none, none]) rfl ?_
    refine mj_fg 4 (L' := [some (.ref 27), none, some (.int x2), none, none, some (.int x5), some (.int s0), none, none]) rfl ?_
    exact tj_chunk_86 hl hk
  · replace hk := og_neg c_75 hk
    refine mj_aload_n d_Mo_chunk_78 rfl ?_
    refine mj_iload_n d_Mo_chunk_79 rfl ?_
    refine mj_iload_n d_Mo_chunk_80 rfl ?_
    refine mj_iload d_Mo_chunk_81 rfl ?_
    obtain ⟨z10, hz10, hk⟩ := og_b hk
    refine mj_cV (S := []) (S1 := []) (tm_gather hl hz10) d_Mo_chunk_83 cw_Mo_gather ml_Mo_161 im_Mo_gather se_Mo_gather rfl (mo_h hl) (by decide) rfl (Nat.le_of_ble_eq_true rfl) rfl rfl ?_
    refine mj_fg 3 (L' := [some (.ref 27), none, some (.int x2), none, some (.int x4), some (.int x5), some (.int s0), none, none]) rfl ?_
    refine mj_fg 4 (L' := [some (.ref 27), none, some (.int x2), none, none, some (.int x5), some (.int s0), none, none]) rfl ?_
    exact tj_chunk_86 hl hk
noncomputable def j_chunk_66 (x2 : Int32) (x3 : Int32) (x4 : Int32) (x5 : Int32) (g : mo_G) : Option mo_G := j_chunk_71 x2 x3 x4 x5 1 g
set_option maxRecDepth 100000 in
set_option maxHeartbeats 4000000 in
theorem tj_chunk_66 {h : mj_H} {r : mo_G} (hl : 39 < h.length) {x2 : Int32} {x3 : Int32} {x4 : Int32} {x5 : Int32} {g : mo_G} (hk : j_chunk_66 x2 x3 x4 x5 g = some r) : mj_W M_Mo_chunk (mj_q none (mo_up h r)) (4, 90, none) 0 0 66 [some (.ref 27), none, some (.int x2), some (.int x3), some (.int x4), some (.int x5), none, none, none] [] (mo_up h g) := by
  unfold j_chunk_66 at hk
  refine mj_iconst (v := 1) d_Mo_chunk_66 (by decide) ?_
  refine mj_goto (tgt := 71) d_Mo_chunk_67 (by decide) ?_
  exact tj_chunk_71 hl hk
noncomputable def j_chunk_49 (x1 : Int32) (x2 : Int32) (x3 : Int32) (x4 : Int32) (x5 : Int32) (g : mo_G) : Option mo_G := (r_pack  g).bind (fun z2 => if x1 = 0 then (j_chunk_66 x2 x3 x4 x5 z2) else (if (z2.1 7) < x5 then (j_chunk_71 x2 x3 x4 x5 0 z2) else (j_chunk_66 x2 x3 x4 x5 z2)))
set_option maxRecDepth 100000 in
set_option maxHeartbeats 4000000 in
theorem tj_chunk_49 {h : mj_H} {r : mo_G} (hl : 39 < h.length) {x1 : Int32} {x2 : Int32} {x3 : Int32} {x4 : Int32} {x5 : Int32} {g : mo_G} (hk : j_chunk_49 x1 x2 x3 x4 x5 g = some r) : mj_W M_Mo_chunk (mj_q none (mo_up h r)) (4, 90, none) 0 0 49 [some (.ref 27), some (.int x1), some (.int x2), some (.int x3), some (.int x4), some (.int x5), none, none, none] [] (mo_up h g) := by
  unfold j_chunk_49 at hk
  refine mj_aload_n d_Mo_chunk_49 rfl ?_
  obtain ⟨z2, hz2, hk⟩ := og_b hk
  refine mj_cV (S := []) (S1 := []) (tm_pack hl hz2) d_Mo_chunk_50 cw_Mo_pack ml_Mo_167 im_Mo_pack se_Mo_pack rfl (mo_h hl) (by decide) rfl (Nat.le_of_ble_eq_true rfl) rfl rfl ?_
  refine mj_iload_n d_Mo_chunk_53 rfl ?_
  refine mj_if_eq (tgt := 66) d_Mo_chunk_54 (by decide) (fun c_54 => ?_) (fun c_54 => ?_)
  · replace hk := og_pos c_54 hk
    refine mj_fg 1 (L' := [some (.ref 27), none, some (.int x2), some (.int x3), some (.int x4), some (.int x5), none, none, none]) rfl ?_
    exact tj_chunk_66 hl hk
  · replace hk := og_neg c_54 hk
    refine mj_aload_n d_Mo_chunk_57 rfl ?_
    refine mj_get ok_Mo (k := 19) (v := .int (z2.1 7)) (by decide) fl_Mo_152 d_Mo_chunk_58 (mo_h hl) rfl ?_
    refine mj_iload d_Mo_chunk_61 rfl ?_
    refine mj_icmp_lt (tgt := 70) d_Mo_chunk_63 (by decide) (fun c_63 => ?_) (fun c_63 => ?_)
    · replace hk := og_pos c_63 hk
      refine mj_iconst (v := 0) d_Mo_chunk_70 (by decide) ?_
      refine mj_fg 1 (L' := [some (.ref 27), none, some (.int x2), some (.int x3), some (.int x4), some (.int x5), none, none, none]) rfl ?_
      exact tj_chunk_71 hl hk
    · replace hk := og_neg c_63 hk
      refine mj_fg 1 (L' := [some (.ref 27), none, some (.int x2), some (.int x3), some (.int x4), some (.int x5), none, none, none]) rfl ?_
      exact tj_chunk_66 hl hk
noncomputable def j_chunk_38 (x1 : Int32) (x2 : Int32) (x3 : Int32) (x4 : Int32) (x5 : Int32) (g : mo_G) : Option mo_G := if x1 = 3 then ((r_waves x2 x3 g).bind (fun z11 => j_chunk_49 x1 x2 x3 x4 x5 z11)) else (j_chunk_49 x1 x2 x3 x4 x5 g)
set_option maxRecDepth 100000 in
set_option maxHeartbeats 4000000 in
theorem tj_chunk_38 {h : mj_H} {r : mo_G} (hl : 39 < h.length) {x1 : Int32} {x2 : Int32} {x3 : Int32} {x4 : Int32} {x5 : Int32} {g : mo_G} (hk : j_chunk_38 x1 x2 x3 x4 x5 g = some r) : mj_W M_Mo_chunk (mj_q none (mo_up h r)) (4, 90, none) 0 0 38 [some (.ref 27), some (.int x1), some (.int x2), some (.int x3), some (.int x4), some (.int x5), none, none, none] [] (mo_up h g) := by
  unfold j_chunk_38 at hk
  refine mj_iload_n d_Mo_chunk_38 rfl ?_
  refine mj_iconst (v := 3) d_Mo_chunk_39 (by decide) ?_
  refine mj_icmp_ne (tgt := 49) d_Mo_chunk_40 (by decide) (fun c_40 => ?_) (fun c_40 => ?_)
  · replace hk := og_neg c_40 hk
    exact tj_chunk_49 hl hk
  · replace hk := og_pos c_40 hk
    refine mj_aload_n d_Mo_chunk_43 rfl ?_
    refine mj_iload_n d_Mo_chunk_44 rfl ?_
    refine mj_iload_n d_Mo_chunk_45 rfl ?_
    obtain ⟨z11, hz11, hk⟩ := og_b hk
    refine mj_cV (S := []) (S1 := []) (tm_waves hl hz11) d_Mo_chunk_46 cw_Mo_waves ml_Mo_164 im_Mo_waves se_Mo_waves rfl (mo_h hl) (by decide) rfl (Nat.le_of_ble_eq_true rfl) rfl rfl ?_
    exact tj_chunk_49 hl hk
noncomputable def j_chunk_10 (x1 : Int32) (x2 : Int32) (x3 : Int32) (s0 : Int32) (g : mo_G) : Option mo_G := (r_gather x2 x3 s0 g).bind (fun z1 => if x1 = 2 then ((r_gather x2 x3 2 z1).bind (fun z12 => j_chunk_38 x1 x2 x3 s0 (z1.1 6) z12)) else (j_chunk_38 x1 x2 x3 s0 (z1.1 6) z1))
set_option maxRecDepth 100000 in
set_option maxHeartbeats 4000000 in
theorem tj_chunk_10 {h : mj_H} {r : mo_G} (hl : 39 < h.length) {x1 : Int32} {x2 : Int32} {x3 : Int32} {s0 : Int32} {g : mo_G} (hk : j_chunk_10 x1 x2 x3 s0 g = some r) : mj_W M_Mo_chunk (mj_q none (mo_up h r)) (4, 90, none) 0 0 10 [some (.ref 27), some (.int x1), some (.int x2), some (.int x3), none, none, none, none, none] [.int s0] (mo_up h g) := by
  unfold j_chunk_10 at hk
  refine mj_istore (L' := [some (.ref 27), some (.int x1), some (.int x2), some (.int x3), some (.int s0), none, none, none, none]) d_Mo_chunk_10 (by decide) rfl rfl ?_
  refine mj_aload_n d_Mo_chunk_12 rfl ?_
  refine mj_iload_n d_Mo_chunk_13 rfl ?_
  refine mj_iload_n d_Mo_chunk_14 rfl ?_
  refine mj_iload d_Mo_chunk_15 rfl ?_
  obtain ⟨z1, hz1, hk⟩ := og_b hk
  refine mj_cV (S := []) (S1 := []) (tm_gather hl hz1) d_Mo_chunk_17 cw_Mo_gather ml_Mo_161 im_Mo_gather se_Mo_gather rfl (mo_h hl) (by decide) rfl (Nat.le_of_ble_eq_true rfl) rfl rfl ?_
  refine mj_aload_n d_Mo_chunk_20 rfl ?_
  refine mj_get ok_Mo (k := 18) (v := .int (z1.1 6)) (by decide) fl_Mo_110 d_Mo_chunk_21 (mo_h hl) rfl ?_
  refine mj_istore (L' := [some (.ref 27), some (.int x1), some (.int x2), some (.int x3), some (.int s0), some (.int (z1.1 6)), none, none, none]) d_Mo_chunk_24 (by decide) rfl rfl ?_
  refine mj_iload_n d_Mo_chunk_26 rfl ?_
  refine mj_iconst (v := 2) d_Mo_chunk_27 (by decide) ?_
  refine mj_icmp_ne (tgt := 38) d_Mo_chunk_28 (by decide) (fun c_28 => ?_) (fun c_28 => ?_)
  · replace hk := og_neg c_28 hk
    exact tj_chunk_38 hl hk
  · replace hk := og_pos c_28 hk
    refine mj_aload_n d_Mo_chunk_31 rfl ?_
    refine mj_iload_n d_Mo_chunk_32 rfl ?_
    refine mj_iload_n d_Mo_chunk_33 rfl ?_
    refine mj_iconst (v := 2) d_Mo_chunk_34 (by decide) ?_
    obtain ⟨z12, hz12, hk⟩ := og_b hk
    refine mj_cV (S := []) (S1 := []) (tm_gather hl hz12) d_Mo_chunk_35 cw_Mo_gather ml_Mo_161 im_Mo_gather se_Mo_gather rfl (mo_h hl) (by decide) rfl (Nat.le_of_ble_eq_true rfl) rfl rfl ?_
    exact tj_chunk_38 hl hk
noncomputable def r_chunk (x1 : Int32) (x2 : Int32) (x3 : Int32) (g : mo_G) : Option mo_G := if x1 = 2 then (j_chunk_10 x1 x2 x3 1 g) else (j_chunk_10 x1 x2 x3 0 g)
set_option maxRecDepth 100000 in
set_option maxHeartbeats 4000000 in
theorem tm_chunk {h : mj_H} {r : mo_G} (hl : 39 < h.length) {x1 : Int32} {x2 : Int32} {x3 : Int32} {g : mo_G} (hk : r_chunk x1 x2 x3 g = some r) : mj_Met M_Mo_chunk (4, 90, none) 0 0 [.ref 27, .int x1, .int x2, .int x3] (mo_up h g) (mj_q none (mo_up h r)) := by
  unfold r_chunk at hk
  refine mj_enter (r := 5) rfl rfl (by decide) rfl ?_
  show mj_W M_Mo_chunk _ _ _ _ 0 [some (.ref 27), some (.int x1), some (.int x2), some (.int x3), none, none, none, none, none] [] (mo_up h g)
  refine mj_iload_n d_Mo_chunk_0 rfl ?_
  refine mj_iconst (v := 2) d_Mo_chunk_1 (by decide) ?_
  refine mj_icmp_ne (tgt := 9) d_Mo_chunk_2 (by decide) (fun c_2 => ?_) (fun c_2 => ?_)
  · replace hk := og_neg c_2 hk
    refine mj_iconst (v := 0) d_Mo_chunk_9 (by decide) ?_
    exact tj_chunk_10 hl hk
  · replace hk := og_pos c_2 hk
    refine mj_iconst (v := 1) d_Mo_chunk_5 (by decide) ?_
    refine mj_goto (tgt := 10) d_Mo_chunk_6 (by decide) ?_
    exact tj_chunk_10 hl hk
noncomputable def l_encode_97 (K : Int32 → mo_G → Option (Prod Int32 mo_G)) : Nat → Int32 → Int32 → mo_G → Option (Prod Int32 mo_G)
  | 0, _, _, _ => none
  | n + 1, x1, x2, g => if (g.1 2) ≤ x2 then (K x1 g) else (og (vp_in (x2 : Int32) 3) ((r_write (((g.2 0) (x2 : Int32).toNatClampNeg)) g).bind (fun z12 => og (vp_in (x2 : Int32) 3) ((r_write (((z12.2 1) (x2 : Int32).toNatClampNeg)) z12).bind (fun z14 => og (vp_in (x2 : Int32) 3) ((r_write (((z14.2 2) (x2 : Int32).toNatClampNeg)) z14).bind (fun z16 => (fun x1 x2 g => l_encode_97 K n x1 x2 g) x1 (x2 + 1) z16)))))))
set_option maxRecDepth 100000 in
set_option maxHeartbeats 4000000 in
theorem tl_encode_97 {h : mj_H} {r : (Prod Int32 mo_G)} (hl : 39 < h.length) {K : Int32 → mo_G → Option (Prod Int32 mo_G)} (hK : (∀ (x1 : Int32) (g : mo_G), K x1 g = some r → mj_W M_Mo_encode (mj_q (some (.int r.1)) (mo_up h r.2)) (5, 118, none) 0 0 141 [some (.ref 27), some (.int x1), none, none, none, none] [] (mo_up h g))) : ∀ (n : Nat) (x1 : Int32) (x2 : Int32) (g : mo_G), l_encode_97 K n x1 x2 g = some r → mj_W M_Mo_encode (mj_q (some (.int r.1)) (mo_up h r.2)) (5, 118, none) 0 0 97 [some (.ref 27), some (.int x1), some (.int x2), none, none, none] [] (mo_up h g) := by
  intro n
  induction n with
  | zero =>
    intro x1 x2 g hk
    cases hk
  | succ n hbk =>
    intro x1 x2 g hk
    rw [l_encode_97] at hk
    refine mj_iload_n d_Mo_encode_97 rfl ?_
    refine mj_aload_n d_Mo_encode_98 rfl ?_
    refine mj_get ok_Mo (k := 2) (v := .int (g.1 2)) (by decide) fl_Mo_16 d_Mo_encode_99 (mo_h hl) rfl ?_
    refine mj_icmp_ge (tgt := 141) d_Mo_encode_102 (by decide) (fun c_102 => ?_) (fun c_102 => ?_)
    · replace hk := og_pos c_102 hk
      refine mj_fg 2 (L' := [some (.ref 27), some (.int x1), none, none, none, none]) rfl ?_
      exact hK _ _ hk
    · replace hk := og_neg c_102 hk
      refine mj_aload_n d_Mo_encode_105 rfl ?_
      refine mj_aload_n d_Mo_encode_106 rfl ?_
      refine mj_get ok_Mo (k := 6) (v := .ref 28) (by decide) fl_Mo_22 d_Mo_encode_107 (mo_h hl) rfl ?_
      refine mj_iload_n d_Mo_encode_110 rfl ?_
      have q11 := og_1 hk
      replace hk := og_2 hk
      refine mj_iald (f := (g.2 0)) d_Mo_encode_111 (mo_a0 hl) q11 ?_
      obtain ⟨z12, hz12, hk⟩ := og_b hk
      refine mj_cV (S := []) (S1 := []) (tm_write hl hz12) d_Mo_encode_112 cw_Mo_write ml_Mo_170 im_Mo_write se_Mo_write rfl (mo_h hl) (by decide) rfl (Nat.le_of_ble_eq_true rfl) rfl rfl ?_
      refine mj_aload_n d_Mo_encode_115 rfl ?_
      refine mj_aload_n d_Mo_encode_116 rfl ?_
      refine mj_get ok_Mo (k := 7) (v := .ref 29) (by decide) fl_Mo_26 d_Mo_encode_117 (mo_h hl) rfl ?_
      refine mj_iload_n d_Mo_encode_120 rfl ?_
      have q13 := og_1 hk
      replace hk := og_2 hk
      refine mj_iald (f := (z12.2 1)) d_Mo_encode_121 (mo_a1 hl) q13 ?_
      obtain ⟨z14, hz14, hk⟩ := og_b hk
      refine mj_cV (S := []) (S1 := []) (tm_write hl hz14) d_Mo_encode_122 cw_Mo_write ml_Mo_170 im_Mo_write se_Mo_write rfl (mo_h hl) (by decide) rfl (Nat.le_of_ble_eq_true rfl) rfl rfl ?_
      refine mj_aload_n d_Mo_encode_125 rfl ?_
      refine mj_aload_n d_Mo_encode_126 rfl ?_
      refine mj_get ok_Mo (k := 8) (v := .ref 30) (by decide) fl_Mo_29 d_Mo_encode_127 (mo_h hl) rfl ?_
      refine mj_iload_n d_Mo_encode_130 rfl ?_
      have q15 := og_1 hk
      replace hk := og_2 hk
      refine mj_iald (f := (z14.2 2)) d_Mo_encode_131 (mo_a2 hl) q15 ?_
      obtain ⟨z16, hz16, hk⟩ := og_b hk
      refine mj_cV (S := []) (S1 := []) (tm_write hl hz16) d_Mo_encode_132 cw_Mo_write ml_Mo_170 im_Mo_write se_Mo_write rfl (mo_h hl) (by decide) rfl (Nat.le_of_ble_eq_true rfl) rfl rfl ?_
      refine mj_iinc (x := x2) (v := x2 + 1) (L' := [some (.ref 27), some (.int x1), some (.int (x2 + 1)), none, none, none]) d_Mo_encode_135 rfl rfl (by decide) rfl rfl ?_
      refine mj_goto (tgt := 97) d_Mo_encode_138 (by decide) ?_
      exact hbk _ _ _ hk
noncomputable def l_encode_178 (K : mo_G → Option (Prod Int32 mo_G)) : Nat → Int32 → Int32 → Int32 → Int32 → Int32 → mo_G → Option (Prod Int32 mo_G)
  | 0, _, _, _, _, _, _ => none
  | n + 1, x1, x2, x3, x4, x5, g => if (g.1 1) ≤ x5 then (K g) else (og (vp_in ((x4 + (2 * x3)) : Int32) 1500) (og (vp_in ((((x4 + (2 * x3))) + 1) : Int32) 1500) ((r_least x2 (((g.1 1) - x5))).bind (fun z23 => (r_chunk x1 x5 z23 (g.1, mo_uA g.2 4 (upd (upd (g.2 4) ((x4 + (2 * x3)) : Int32).toNatClampNeg (((g.1 3) &&& 255))) ((((x4 + (2 * x3))) + 1) : Int32).toNatClampNeg (((g.1 3) >>> (8 &&& 31)))))).bind (fun z24 => (fun x1 x2 x3 x4 x5 g => l_encode_178 K n x1 x2 x3 x4 x5 g) x1 x2 (x3 + 1) x4 (x5 + x2) z24)))))
set_option maxRecDepth 100000 in
set_option maxHeartbeats 4000000 in
theorem tl_encode_178 {h : mj_H} {r : (Prod Int32 mo_G)} (hl : 39 < h.length) {K : mo_G → Option (Prod Int32 mo_G)} (hK : (∀ (g : mo_G), K g = some r → mj_W M_Mo_encode (mj_q (some (.int r.1)) (mo_up h r.2)) (5, 118, none) 0 0 256 [some (.ref 27), none, none, none, none, none] [] (mo_up h g))) : ∀ (n : Nat) (x1 : Int32) (x2 : Int32) (x3 : Int32) (x4 : Int32) (x5 : Int32) (g : mo_G), l_encode_178 K n x1 x2 x3 x4 x5 g = some r → mj_W M_Mo_encode (mj_q (some (.int r.1)) (mo_up h r.2)) (5, 118, none) 0 0 178 [some (.ref 27), some (.int x1), some (.int x2), some (.int x3), some (.int x4), some (.int x5)] [] (mo_up h g) := by
  intro n
  induction n with
  | zero =>
    intro x1 x2 x3 x4 x5 g hk
    cases hk
  | succ n hbk =>
    intro x1 x2 x3 x4 x5 g hk
    rw [l_encode_178] at hk
    refine mj_iload d_Mo_encode_178 rfl ?_
    refine mj_aload_n d_Mo_encode_180 rfl ?_
    refine mj_get ok_Mo (k := 1) (v := .int (g.1 1)) (by decide) fl_Mo_13 d_Mo_encode_181 (mo_h hl) rfl ?_
    refine mj_icmp_ge (tgt := 256) d_Mo_encode_184 (by decide) (fun c_184 => ?_) (fun c_184 => ?_)
    · replace hk := og_pos c_184 hk
      refine mj_fg 1 (L' := [some (.ref 27), none, some (.int x2), some (.int x3), some (.int x4), some (.int x5)]) rfl ?_
      refine mj_fg 2 (L' := [some (.ref 27), none, none, some (.int x3), some (.int x4), some (.int x5)]) rfl ?_
      refine mj_fg 3 (L' := [some (.ref 27), none, none, none, some (.int x4), some (.int x5)]) rfl ?_
      refine mj_fg 4 (L' := [some (.ref 27), none, none, none, none, some (.int x5)]) rfl ?_
      refine mj_fg 5 (L' := [some (.ref 27), none, none, none, none, none]) rfl ?_
      exact hK _ hk
    · replace hk := og_neg c_184 hk
      refine mj_aload_n d_Mo_encode_187 rfl ?_
      refine mj_get ok_Mo (k := 10) (v := .ref 32) (by decide) fl_Mo_35 d_Mo_encode_188 (mo_h hl) rfl ?_
      refine mj_iload d_Mo_encode_191 rfl ?_
      refine mj_iconst (v := 2) d_Mo_encode_193 (by decide) ?_
      refine mj_iload_n d_Mo_encode_194 rfl ?_
      refine mj_imul d_Mo_encode_195 ?_
      refine mj_iadd d_Mo_encode_196 ?_
      refine mj_aload_n d_Mo_encode_197 rfl ?_
      refine mj_get ok_Mo (k := 3) (v := .int (g.1 3)) (by decide) fl_Mo_158 d_Mo_encode_198 (mo_h hl) rfl ?_
      refine mj_sipush (v := 255) d_Mo_encode_201 (by decide) ?_
      refine mj_iand d_Mo_encode_204 ?_
      have q21 := og_1 hk
      replace hk := og_2 hk
      refine mj_iast (f := (g.2 4)) d_Mo_encode_205 (mo_a4 hl) q21 ?_
      refine mj_hp (h1 := mo_up h (g.1, mo_uA g.2 4 (upd (g.2 4) ((x4 + (2 * x3)) : Int32).toNatClampNeg (((g.1 3) &&& 255))))) (mo_b4 (g := g) hl (upd (g.2 4) ((x4 + (2 * x3)) : Int32).toNatClampNeg (((g.1 3) &&& 255)))) ?_
      refine mj_aload_n d_Mo_encode_206 rfl ?_
      refine mj_get ok_Mo (k := 10) (v := .ref 32) (by decide) fl_Mo_35 d_Mo_encode_207 (mo_h hl) rfl ?_
      refine mj_iload d_Mo_encode_210 rfl ?_
      refine mj_iconst (v := 2) d_Mo_encode_212 (by decide) ?_
      refine mj_iload_n d_Mo_encode_213 rfl ?_
      refine mj_imul d_Mo_encode_214 ?_
      refine mj_iadd d_Mo_encode_215 ?_
      refine mj_iconst (v := 1) d_Mo_encode_216 (by decide) ?_
      refine mj_iadd d_Mo_encode_217 ?_
      refine mj_aload_n d_Mo_encode_218 rfl ?_
      refine mj_get ok_Mo (k := 3) (v := .int (g.1 3)) (by decide) fl_Mo_158 d_Mo_encode_219 (mo_h hl) rfl ?_
      refine mj_bipush (v := 8) d_Mo_encode_222 (by decide) ?_
      refine mj_ishr d_Mo_encode_224 ?_
      have q22 := og_1 hk
      replace hk := og_2 hk
      refine mj_iast (f := upd (g.2 4) ((x4 + (2 * x3)) : Int32).toNatClampNeg (((g.1 3) &&& 255))) d_Mo_encode_225 (mo_a4 hl) q22 ?_
      refine mj_hp (h1 := mo_up h (g.1, mo_uA g.2 4 (upd (upd (g.2 4) ((x4 + (2 * x3)) : Int32).toNatClampNeg (((g.1 3) &&& 255))) ((((x4 + (2 * x3))) + 1) : Int32).toNatClampNeg (((g.1 3) >>> (8 &&& 31)))))) (mo_b4 (g := (g.1, mo_uA g.2 4 (upd (g.2 4) ((x4 + (2 * x3)) : Int32).toNatClampNeg (((g.1 3) &&& 255))))) hl (upd (upd (g.2 4) ((x4 + (2 * x3)) : Int32).toNatClampNeg (((g.1 3) &&& 255))) ((((x4 + (2 * x3))) + 1) : Int32).toNatClampNeg (((g.1 3) >>> (8 &&& 31))))) ?_
      refine mj_aload_n d_Mo_encode_226 rfl ?_
      refine mj_iload_n d_Mo_encode_227 rfl ?_
      refine mj_iload d_Mo_encode_228 rfl ?_
      refine mj_iload_n d_Mo_encode_230 rfl ?_
      refine mj_aload_n d_Mo_encode_231 rfl ?_
      refine mj_get ok_Mo (k := 1) (v := .int (g.1 1)) (by decide) fl_Mo_13 d_Mo_encode_232 (mo_h hl) rfl ?_
      refine mj_iload d_Mo_encode_235 rfl ?_
      refine mj_isub d_Mo_encode_237 ?_
      obtain ⟨z23, hz23, hk⟩ := og_b hk
      refine mj_cS (S := [.int x5, .int x1, .ref 27]) (S1 := [.int z23, .int x5, .int x1, .ref 27]) (tm_least hz23) d_Mo_encode_238 cw_Mo_least ml_Mo_139 st_Mo_least (by decide) rfl (Nat.le_of_ble_eq_true rfl) rfl rfl ?_
      obtain ⟨z24, hz24, hk⟩ := og_b hk
      refine mj_cV (S := []) (S1 := []) (tm_chunk hl hz24) d_Mo_encode_241 cw_Mo_chunk ml_Mo_176 im_Mo_chunk se_Mo_chunk rfl (mo_h hl) (by decide) rfl (Nat.le_of_ble_eq_true rfl) rfl rfl ?_
      refine mj_iinc (x := x3) (v := x3 + 1) (L' := [some (.ref 27), some (.int x1), some (.int x2), some (.int (x3 + 1)), some (.int x4), some (.int x5)]) d_Mo_encode_244 rfl rfl (by decide) rfl rfl ?_
      refine mj_iload d_Mo_encode_247 rfl ?_
      refine mj_iload_n d_Mo_encode_249 rfl ?_
      refine mj_iadd d_Mo_encode_250 ?_
      refine mj_istore (L' := [some (.ref 27), some (.int x1), some (.int x2), some (.int (x3 + 1)), some (.int x4), some (.int (x5 + x2))]) d_Mo_encode_251 (by decide) rfl rfl ?_
      refine mj_goto (tgt := 178) d_Mo_encode_253 (by decide) ?_
      exact hbk _ _ _ _ _ _ hk
noncomputable def r_encode (x1 : Int32) (g : mo_G) : Option (Prod Int32 mo_G) := (r_in x1 0 3).bind (fun z1 => if z1 = 0 then ((r_fail 1 g).bind (fun z27 => some (z27.1, z27.2))) else (if (g.1 2) = 0 then ((r_fail 2 g).bind (fun z26 => some (z26.1, z26.2))) else ((r_write 118 (upd (upd g.1 5 0) 3 0, g.2)).bind (fun z2 => (r_write 47 z2).bind (fun z3 => (r_write 49 z3).bind (fun z4 => (r_write 1 z4).bind (fun z5 => (r_write 2 z5).bind (fun z6 => (r_write (z6.1 0) z6).bind (fun z7 => (r_write (z7.1 1) z7).bind (fun z8 => (r_write x1 z8).bind (fun z9 => (r_write (z9.1 2) z9).bind (fun z10 => l_encode_97 (fun y18 g17 => (r_linesOf y18).bind (fun z19 => og (¬ z19 = 0) (l_encode_178 (fun  g25 => some ((g25.1 3), g25)) 2000 y18 z19 0 (g17.1 3) 0 (upd g17.1 3 (((g17.1 3) + ((2 * (((((((g17.1 1) + z19)) - 1)) / z19)))))), g17.2)))) 2000 x1 0 z10))))))))))))
set_option maxRecDepth 100000 in
set_option maxHeartbeats 4000000 in
theorem tm_encode {h : mj_H} {r : (Prod Int32 mo_G)} (hl : 39 < h.length) {x1 : Int32} {g : mo_G} (hk : r_encode x1 g = some r) : mj_Met M_Mo_encode (5, 118, none) 0 0 [.ref 27, .int x1] (mo_up h g) (mj_q (some (.int r.1)) (mo_up h r.2)) := by
  unfold r_encode at hk
  refine mj_enter (r := 4) rfl rfl (by decide) rfl ?_
  show mj_W M_Mo_encode _ _ _ _ 0 [some (.ref 27), some (.int x1), none, none, none, none] [] (mo_up h g)
  refine mj_iload_n d_Mo_encode_0 rfl ?_
  refine mj_iconst (v := 0) d_Mo_encode_1 (by decide) ?_
  refine mj_iconst (v := 3) d_Mo_encode_2 (by decide) ?_
  obtain ⟨z1, hz1, hk⟩ := og_b hk
  refine mj_cS (S := []) (S1 := [.int z1]) (tm_in hz1) d_Mo_encode_3 cw_Mo_in ml_Mo_87 st_Mo_in (by decide) rfl (Nat.le_of_ble_eq_true rfl) rfl rfl ?_
  refine mj_if_ne (tgt := 15) d_Mo_encode_6 (by decide) (fun c_6 => ?_) (fun c_6 => ?_)
  · replace hk := og_neg c_6 hk
    refine mj_aload_n d_Mo_encode_15 rfl ?_
    refine mj_get ok_Mo (k := 2) (v := .int (g.1 2)) (by decide) fl_Mo_16 d_Mo_encode_16 (mo_h hl) rfl ?_
    refine mj_if_ne (tgt := 28) d_Mo_encode_19 (by decide) (fun c_19 => ?_) (fun c_19 => ?_)
    · replace hk := og_neg c_19 hk
      refine mj_aload_n d_Mo_encode_28 rfl ?_
      refine mj_iconst (v := 0) d_Mo_encode_29 (by decide) ?_
      refine mj_put ok_Mo (k := 5) (by decide) fl_Mo_59 rfl (fun _ => rfl) (fun _ => rfl) (Nat.le_of_ble_eq_true rfl) d_Mo_encode_30 (mo_h hl) ?_
      refine mj_hp (h1 := mo_up h (upd g.1 5 0, g.2)) (mo_p5 (g := g) hl 0) ?_
      refine mj_aload_n d_Mo_encode_33 rfl ?_
      refine mj_iconst (v := 0) d_Mo_encode_34 (by decide) ?_
      refine mj_put ok_Mo (k := 3) (by decide) fl_Mo_158 rfl (fun _ => rfl) (fun _ => rfl) (Nat.le_of_ble_eq_true rfl) d_Mo_encode_35 (mo_h hl) ?_
      refine mj_hp (h1 := mo_up h (upd (upd g.1 5 0) 3 0, g.2)) (mo_p3 (g := (upd g.1 5 0, g.2)) hl 0) ?_
      refine mj_aload_n d_Mo_encode_38 rfl ?_
      refine mj_bipush (v := 118) d_Mo_encode_39 (by decide) ?_
      obtain ⟨z2, hz2, hk⟩ := og_b hk
      refine mj_cV (S := []) (S1 := []) (tm_write hl hz2) d_Mo_encode_41 cw_Mo_write ml_Mo_170 im_Mo_write se_Mo_write rfl (mo_h hl) (by decide) rfl (Nat.le_of_ble_eq_true rfl) rfl rfl ?_
      refine mj_aload_n d_Mo_encode_44 rfl ?_
      refine mj_bipush (v := 47) d_Mo_encode_45 (by decide) ?_
      obtain ⟨z3, hz3, hk⟩ := og_b hk
      refine mj_cV (S := []) (S1 := []) (tm_write hl hz3) d_Mo_encode_47 cw_Mo_write ml_Mo_170 im_Mo_write se_Mo_write rfl (mo_h hl) (by decide) rfl (Nat.le_of_ble_eq_true rfl) rfl rfl ?_
      refine mj_aload_n d_Mo_encode_50 rfl ?_
      refine mj_bipush (v := 49) d_Mo_encode_51 (by decide) ?_
      obtain ⟨z4, hz4, hk⟩ := og_b hk
      refine mj_cV (S := []) (S1 := []) (tm_write hl hz4) d_Mo_encode_53 cw_Mo_write ml_Mo_170 im_Mo_write se_Mo_write rfl (mo_h hl) (by decide) rfl (Nat.le_of_ble_eq_true rfl) rfl rfl ?_
      refine mj_aload_n d_Mo_encode_56 rfl ?_
      refine mj_iconst (v := 1) d_Mo_encode_57 (by decide) ?_
      obtain ⟨z5, hz5, hk⟩ := og_b hk
      refine mj_cV (S := []) (S1 := []) (tm_write hl hz5) d_Mo_encode_58 cw_Mo_write ml_Mo_170 im_Mo_write se_Mo_write rfl (mo_h hl) (by decide) rfl (Nat.le_of_ble_eq_true rfl) rfl rfl ?_
      refine mj_aload_n d_Mo_encode_61 rfl ?_
      refine mj_iconst (v := 2) d_Mo_encode_62 (by decide) ?_
      obtain ⟨z6, hz6, hk⟩ := og_b hk
      refine mj_cV (S := []) (S1 := []) (tm_write hl hz6) d_Mo_encode_63 cw_Mo_write ml_Mo_170 im_Mo_write se_Mo_write rfl (mo_h hl) (by decide) rfl (Nat.le_of_ble_eq_true rfl) rfl rfl ?_
      refine mj_aload_n d_Mo_encode_66 rfl ?_
      refine mj_aload_n d_Mo_encode_67 rfl ?_
      refine mj_get ok_Mo (k := 0) (v := .int (z6.1 0)) (by decide) fl_Mo_7 d_Mo_encode_68 (mo_h hl) rfl ?_
      obtain ⟨z7, hz7, hk⟩ := og_b hk
      refine mj_cV (S := []) (S1 := []) (tm_write hl hz7) d_Mo_encode_71 cw_Mo_write ml_Mo_170 im_Mo_write se_Mo_write rfl (mo_h hl) (by decide) rfl (Nat.le_of_ble_eq_true rfl) rfl rfl ?_
      refine mj_aload_n d_Mo_encode_74 rfl ?_
      refine mj_aload_n d_Mo_encode_75 rfl ?_
      refine mj_get ok_Mo (k := 1) (v := .int (z7.1 1)) (by decide) fl_Mo_13 d_Mo_encode_76 (mo_h hl) rfl ?_
      obtain ⟨z8, hz8, hk⟩ := og_b hk
      refine mj_cV (S := []) (S1 := []) (tm_write hl hz8) d_Mo_encode_79 cw_Mo_write ml_Mo_170 im_Mo_write se_Mo_write rfl (mo_h hl) (by decide) rfl (Nat.le_of_ble_eq_true rfl) rfl rfl ?_
      refine mj_aload_n d_Mo_encode_82 rfl ?_
      refine mj_iload_n d_Mo_encode_83 rfl ?_
      obtain ⟨z9, hz9, hk⟩ := og_b hk
      refine mj_cV (S := []) (S1 := []) (tm_write hl hz9) d_Mo_encode_84 cw_Mo_write ml_Mo_170 im_Mo_write se_Mo_write rfl (mo_h hl) (by decide) rfl (Nat.le_of_ble_eq_true rfl) rfl rfl ?_
      refine mj_aload_n d_Mo_encode_87 rfl ?_
      refine mj_aload_n d_Mo_encode_88 rfl ?_
      refine mj_get ok_Mo (k := 2) (v := .int (z9.1 2)) (by decide) fl_Mo_16 d_Mo_encode_89 (mo_h hl) rfl ?_
      obtain ⟨z10, hz10, hk⟩ := og_b hk
      refine mj_cV (S := []) (S1 := []) (tm_write hl hz10) d_Mo_encode_92 cw_Mo_write ml_Mo_170 im_Mo_write se_Mo_write rfl (mo_h hl) (by decide) rfl (Nat.le_of_ble_eq_true rfl) rfl rfl ?_
      refine mj_iconst (v := 0) d_Mo_encode_95 (by decide) ?_
      refine mj_istore_n (L' := [some (.ref 27), some (.int x1), some (.int 0), none, none, none]) d_Mo_encode_96 (by decide) rfl rfl ?_
      refine tl_encode_97 hl ?_ 2000 _ _ _ hk
      intro y18 g17 hk
      refine mj_iload_n d_Mo_encode_141 rfl ?_
      obtain ⟨z19, hz19, hk⟩ := og_b hk
      refine mj_cS (S := []) (S1 := [.int z19]) (tm_linesOf hz19) d_Mo_encode_142 cw_Mo_linesOf ml_Mo_173 st_Mo_linesOf (by decide) rfl (Nat.le_of_ble_eq_true rfl) rfl rfl ?_
      refine mj_istore_n (L' := [some (.ref 27), some (.int y18), some (.int z19), none, none, none]) d_Mo_encode_145 (by decide) rfl rfl ?_
      refine mj_iconst (v := 0) d_Mo_encode_146 (by decide) ?_
      refine mj_istore_n (L' := [some (.ref 27), some (.int y18), some (.int z19), some (.int 0), none, none]) d_Mo_encode_147 (by decide) rfl rfl ?_
      refine mj_aload_n d_Mo_encode_148 rfl ?_
      refine mj_get ok_Mo (k := 3) (v := .int (g17.1 3)) (by decide) fl_Mo_158 d_Mo_encode_149 (mo_h hl) rfl ?_
      refine mj_istore (L' := [some (.ref 27), some (.int y18), some (.int z19), some (.int 0), some (.int (g17.1 3)), none]) d_Mo_encode_152 (by decide) rfl rfl ?_
      refine mj_aload_n d_Mo_encode_154 rfl ?_
      refine mj_dup d_Mo_encode_155 rfl ?_
      refine mj_get ok_Mo (k := 3) (v := .int (g17.1 3)) (by decide) fl_Mo_158 d_Mo_encode_156 (mo_h hl) rfl ?_
      refine mj_iconst (v := 2) d_Mo_encode_159 (by decide) ?_
      refine mj_aload_n d_Mo_encode_160 rfl ?_
      refine mj_get ok_Mo (k := 1) (v := .int (g17.1 1)) (by decide) fl_Mo_13 d_Mo_encode_161 (mo_h hl) rfl ?_
      refine mj_iload_n d_Mo_encode_164 rfl ?_
      refine mj_iadd d_Mo_encode_165 ?_
      refine mj_iconst (v := 1) d_Mo_encode_166 (by decide) ?_
      refine mj_isub d_Mo_encode_167 ?_
      refine mj_iload_n d_Mo_encode_168 rfl ?_
      have q20 := og_1 hk
      replace hk := og_2 hk
      refine mj_idiv d_Mo_encode_169 q20 ?_
      refine mj_imul d_Mo_encode_170 ?_
      refine mj_iadd d_Mo_encode_171 ?_
      refine mj_put ok_Mo (k := 3) (by decide) fl_Mo_158 rfl (fun _ => rfl) (fun _ => rfl) (Nat.le_of_ble_eq_true rfl) d_Mo_encode_172 (mo_h hl) ?_
      refine mj_hp (h1 := mo_up h (upd g17.1 3 (((g17.1 3) + ((2 * (((((((g17.1 1) + z19)) - 1)) / z19)))))), g17.2)) (mo_p3 (g := g17) hl (((g17.1 3) + ((2 * (((((((g17.1 1) + z19)) - 1)) / z19))))))) ?_
      refine mj_iconst (v := 0) d_Mo_encode_175 (by decide) ?_
      refine mj_istore (L' := [some (.ref 27), some (.int y18), some (.int z19), some (.int 0), some (.int (g17.1 3)), some (.int 0)]) d_Mo_encode_176 (by decide) rfl rfl ?_
      refine tl_encode_178 hl ?_ 2000 _ _ _ _ _ _ hk
      intro  g25 hk
      refine mj_aload_n d_Mo_encode_256 rfl ?_
      refine mj_get ok_Mo (k := 3) (v := .int (g25.1 3)) (by decide) fl_Mo_158 d_Mo_encode_257 (mo_h hl) rfl ?_
      cases hk
      exact mj_iret rfl d_Mo_encode_260 ⟨rfl, rfl⟩
    · replace hk := og_pos c_19 hk
      refine mj_aload_n d_Mo_encode_22 rfl ?_
      refine mj_iconst (v := 2) d_Mo_encode_23 (by decide) ?_
      obtain ⟨z26, hz26, hk⟩ := og_b hk
      refine mj_cV (S := []) (S1 := [.int z26.1]) (tm_fail hl hz26) d_Mo_encode_24 cw_Mo_fail ml_Mo_91 im_Mo_fail se_Mo_fail rfl (mo_h hl) (by decide) rfl (Nat.le_of_ble_eq_true rfl) rfl rfl ?_
      cases hk
      exact mj_iret rfl d_Mo_encode_27 ⟨rfl, rfl⟩
  · replace hk := og_pos c_6 hk
    refine mj_aload_n d_Mo_encode_9 rfl ?_
    refine mj_iconst (v := 1) d_Mo_encode_10 (by decide) ?_
    obtain ⟨z27, hz27, hk⟩ := og_b hk
    refine mj_cV (S := []) (S1 := [.int z27.1]) (tm_fail hl hz27) d_Mo_encode_11 cw_Mo_fail ml_Mo_91 im_Mo_fail se_Mo_fail rfl (mo_h hl) (by decide) rfl (Nat.le_of_ble_eq_true rfl) rfl rfl ?_
    cases hk
    exact mj_iret rfl d_Mo_encode_14 ⟨rfl, rfl⟩
