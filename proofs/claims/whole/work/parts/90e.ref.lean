noncomputable def r_wrong (x1 : Int32) (x2 : Int32) (g : mo_G) : Option mo_G := if (g.1 9) ≤ 0 then (some (upd (upd g.1 4 x1) 9 x2, g.2)) else (some g)
set_option maxRecDepth 100000 in
set_option maxHeartbeats 4000000 in
theorem tm_wrong {h : mj_H} {r : mo_G} (hl : 39 < h.length) {x1 : Int32} {x2 : Int32} {g : mo_G} (hk : r_wrong x1 x2 g = some r) : mj_Met M_Mo_wrong (0, 0, none) 0 0 [.ref 27, .int x1, .int x2] (mo_up h g) (mj_q none (mo_up h r)) := by
  unfold r_wrong at hk
  refine mj_enter (r := 0) rfl rfl (by decide) rfl ?_
  show mj_W M_Mo_wrong _ _ _ _ 0 [some (.ref 27), some (.int x1), some (.int x2)] [] (mo_up h g)
  refine mj_aload_n d_Mo_wrong_0 rfl ?_
  refine mj_get ok_Mo (k := 21) (v := .int (g.1 9)) (by decide) fl_Mo_179 d_Mo_wrong_1 (mo_h hl) rfl ?_
  refine mj_if_le (tgt := 8) d_Mo_wrong_4 (by decide) (fun c_4 => ?_) (fun c_4 => ?_)
  · replace hk := og_pos c_4 hk
    refine mj_aload_n d_Mo_wrong_8 rfl ?_
    refine mj_iload_n d_Mo_wrong_9 rfl ?_
    refine mj_put ok_Mo (k := 4) (by decide) fl_Mo_19 rfl (fun _ => rfl) (fun _ => rfl) (Nat.le_of_ble_eq_true rfl) d_Mo_wrong_10 (mo_h hl) ?_
    refine mj_hp (h1 := mo_up h (upd g.1 4 x1, g.2)) (mo_p4 (g := g) hl x1) ?_
    refine mj_aload_n d_Mo_wrong_13 rfl ?_
    refine mj_iload_n d_Mo_wrong_14 rfl ?_
    refine mj_put ok_Mo (k := 21) (by decide) fl_Mo_179 rfl (fun _ => rfl) (fun _ => rfl) (Nat.le_of_ble_eq_true rfl) d_Mo_wrong_15 (mo_h hl) ?_
    refine mj_hp (h1 := mo_up h (upd (upd g.1 4 x1) 9 x2, g.2)) (mo_p9 (g := (upd g.1 4 x1, g.2)) hl x2) ?_
    cases hk
    exact mj_vret rfl d_Mo_wrong_18 ⟨rfl, rfl⟩
  · replace hk := og_neg c_4 hk
    cases hk
    exact mj_vret rfl d_Mo_wrong_7 ⟨rfl, rfl⟩
noncomputable def j_next_57 (g : mo_G) : Option (Prod Int32 mo_G) := og (vp_in (((((g.1 8) + 1)) - 1) : Int32) 1500) (some (((g.2 4) (((((g.1 8) + 1)) - 1) : Int32).toNatClampNeg), (upd g.1 8 (((g.1 8) + 1)), g.2)))
set_option maxRecDepth 100000 in
set_option maxHeartbeats 4000000 in
theorem tj_next_57 {h : mj_H} {r : (Prod Int32 mo_G)} (hl : 39 < h.length) {g : mo_G} (hk : j_next_57 g = some r) : mj_W M_Mo_next (mj_q (some (.int r.1)) (mo_up h r.2)) (1, 22, none) 0 0 57 [some (.ref 27), none, none, none] [] (mo_up h g) := by
  unfold j_next_57 at hk
  refine mj_aload_n d_Mo_next_57 rfl ?_
  refine mj_dup d_Mo_next_58 rfl ?_
  refine mj_get ok_Mo (k := 20) (v := .int (g.1 8)) (by decide) fl_Mo_182 d_Mo_next_59 (mo_h hl) rfl ?_
  refine mj_iconst (v := 1) d_Mo_next_62 (by decide) ?_
  refine mj_iadd d_Mo_next_63 ?_
  refine mj_put ok_Mo (k := 20) (by decide) fl_Mo_182 rfl (fun _ => rfl) (fun _ => rfl) (Nat.le_of_ble_eq_true rfl) d_Mo_next_64 (mo_h hl) ?_
  refine mj_hp (h1 := mo_up h (upd g.1 8 (((g.1 8) + 1)), g.2)) (mo_p8 (g := g) hl (((g.1 8) + 1))) ?_
  refine mj_aload_n d_Mo_next_67 rfl ?_
  refine mj_get ok_Mo (k := 10) (v := .ref 32) (by decide) fl_Mo_35 d_Mo_next_68 (mo_h hl) rfl ?_
  refine mj_aload_n d_Mo_next_71 rfl ?_
  refine mj_get ok_Mo (k := 20) (v := .int ((g.1 8) + 1)) (by decide) fl_Mo_182 d_Mo_next_72 (mo_h hl) rfl ?_
  refine mj_iconst (v := 1) d_Mo_next_75 (by decide) ?_
  refine mj_isub d_Mo_next_76 ?_
  have q3 := og_1 hk
  replace hk := og_2 hk
  refine mj_iald (f := (g.2 4)) d_Mo_next_77 (mo_a4 hl) q3 ?_
  cases hk
  exact mj_iret rfl d_Mo_next_78 ⟨rfl, rfl⟩
noncomputable def r_next (x1 : Int32) (x2 : Int32) (x3 : Int32) (g : mo_G) : Option (Prod Int32 mo_G) := if (g.1 9) ≤ 0 then (if (g.1 8) < (g.1 3) then (og (vp_in ((g.1 8) : Int32) 1500) ((r_in (((g.2 4) ((g.1 8) : Int32).toNatClampNeg)) x1 x2).bind (fun z2 => if z2 = 0 then ((r_wrong (g.1 8) x3 g).bind (fun z4 => j_next_57 z4)) else (j_next_57 g)))) else ((r_wrong (g.1 3) 1 g).bind (fun z5 => some (0, z5)))) else (some (0, g))
set_option maxRecDepth 100000 in
set_option maxHeartbeats 4000000 in
theorem tm_next {h : mj_H} {r : (Prod Int32 mo_G)} (hl : 39 < h.length) {x1 : Int32} {x2 : Int32} {x3 : Int32} {g : mo_G} (hk : r_next x1 x2 x3 g = some r) : mj_Met M_Mo_next (1, 22, none) 0 0 [.ref 27, .int x1, .int x2, .int x3] (mo_up h g) (mj_q (some (.int r.1)) (mo_up h r.2)) := by
  unfold r_next at hk
  refine mj_enter (r := 0) rfl rfl (by decide) rfl ?_
  show mj_W M_Mo_next _ _ _ _ 0 [some (.ref 27), some (.int x1), some (.int x2), some (.int x3)] [] (mo_up h g)
  refine mj_aload_n d_Mo_next_0 rfl ?_
  refine mj_get ok_Mo (k := 21) (v := .int (g.1 9)) (by decide) fl_Mo_179 d_Mo_next_1 (mo_h hl) rfl ?_
  refine mj_if_le (tgt := 9) d_Mo_next_4 (by decide) (fun c_4 => ?_) (fun c_4 => ?_)
  · replace hk := og_pos c_4 hk
    refine mj_aload_n d_Mo_next_9 rfl ?_
    refine mj_get ok_Mo (k := 20) (v := .int (g.1 8)) (by decide) fl_Mo_182 d_Mo_next_10 (mo_h hl) rfl ?_
    refine mj_aload_n d_Mo_next_13 rfl ?_
    refine mj_get ok_Mo (k := 3) (v := .int (g.1 3)) (by decide) fl_Mo_158 d_Mo_next_14 (mo_h hl) rfl ?_
    refine mj_icmp_lt (tgt := 31) d_Mo_next_17 (by decide) (fun c_17 => ?_) (fun c_17 => ?_)
    · replace hk := og_pos c_17 hk
      refine mj_aload_n d_Mo_next_31 rfl ?_
      refine mj_get ok_Mo (k := 10) (v := .ref 32) (by decide) fl_Mo_35 d_Mo_next_32 (mo_h hl) rfl ?_
      refine mj_aload_n d_Mo_next_35 rfl ?_
      refine mj_get ok_Mo (k := 20) (v := .int (g.1 8)) (by decide) fl_Mo_182 d_Mo_next_36 (mo_h hl) rfl ?_
      have q1 := og_1 hk
      replace hk := og_2 hk
      refine mj_iald (f := (g.2 4)) d_Mo_next_39 (mo_a4 hl) q1 ?_
      refine mj_iload_n d_Mo_next_40 rfl ?_
      refine mj_iload_n d_Mo_next_41 rfl ?_
      obtain ⟨z2, hz2, hk⟩ := og_b hk
      refine mj_cS (S := []) (S1 := [.int z2]) (tm_in hz2) d_Mo_next_42 cw_Mo_in ml_Mo_87 st_Mo_in (by decide) rfl (Nat.le_of_ble_eq_true rfl) rfl rfl ?_
      refine mj_if_ne (tgt := 57) d_Mo_next_45 (by decide) (fun c_45 => ?_) (fun c_45 => ?_)
      · replace hk := og_neg c_45 hk
        refine mj_fg 1 (L' := [some (.ref 27), none, some (.int x2), some (.int x3)]) rfl ?_
        refine mj_fg 2 (L' := [some (.ref 27), none, none, some (.int x3)]) rfl ?_
        refine mj_fg 3 (L' := [some (.ref 27), none, none, none]) rfl ?_
        exact tj_next_57 hl hk
      · replace hk := og_pos c_45 hk
        refine mj_aload_n d_Mo_next_48 rfl ?_
        refine mj_aload_n d_Mo_next_49 rfl ?_
        refine mj_get ok_Mo (k := 20) (v := .int (g.1 8)) (by decide) fl_Mo_182 d_Mo_next_50 (mo_h hl) rfl ?_
        refine mj_iload_n d_Mo_next_53 rfl ?_
        obtain ⟨z4, hz4, hk⟩ := og_b hk
        refine mj_cV (S := []) (S1 := []) (tm_wrong hl hz4) d_Mo_next_54 cw_Mo_wrong ml_Mo_185 im_Mo_wrong se_Mo_wrong rfl (mo_h hl) (by decide) rfl (Nat.le_of_ble_eq_true rfl) rfl rfl ?_
        refine mj_fg 1 (L' := [some (.ref 27), none, some (.int x2), some (.int x3)]) rfl ?_
        refine mj_fg 2 (L' := [some (.ref 27), none, none, some (.int x3)]) rfl ?_
        refine mj_fg 3 (L' := [some (.ref 27), none, none, none]) rfl ?_
        exact tj_next_57 hl hk
    · replace hk := og_neg c_17 hk
      refine mj_aload_n d_Mo_next_20 rfl ?_
      refine mj_aload_n d_Mo_next_21 rfl ?_
      refine mj_get ok_Mo (k := 3) (v := .int (g.1 3)) (by decide) fl_Mo_158 d_Mo_next_22 (mo_h hl) rfl ?_
      refine mj_iconst (v := 1) d_Mo_next_25 (by decide) ?_
      obtain ⟨z5, hz5, hk⟩ := og_b hk
      refine mj_cV (S := []) (S1 := []) (tm_wrong hl hz5) d_Mo_next_26 cw_Mo_wrong ml_Mo_185 im_Mo_wrong se_Mo_wrong rfl (mo_h hl) (by decide) rfl (Nat.le_of_ble_eq_true rfl) rfl rfl ?_
      refine mj_iconst (v := 0) d_Mo_next_29 (by decide) ?_
      cases hk
      exact mj_iret rfl d_Mo_next_30 ⟨rfl, rfl⟩
  · replace hk := og_neg c_4 hk
    refine mj_iconst (v := 0) d_Mo_next_7 (by decide) ?_
    cases hk
    exact mj_iret rfl d_Mo_next_8 ⟨rfl, rfl⟩
noncomputable def j_readHead_139 (K : mo_G → Option mo_G) (bk : Int32 → mo_G → Option mo_G) (x1 : Int32) (s0 : Int32) (s2 : Int32) (g : mo_G) : Option mo_G := (r_next s0 122 1 g).bind (fun z11 => og (vp_in (s2 : Int32) 3) ((r_next 0 2 1 (z11.2.1, mo_uA z11.2.2 5 (upd (z11.2.2 5) (s2 : Int32).toNatClampNeg z11.1))).bind (fun z13 => og (vp_in (x1 : Int32) 3) ((r_next 1 2 1 (z13.2.1, mo_uA z13.2.2 6 (upd (z13.2.2 6) (x1 : Int32).toNatClampNeg z13.1))).bind (fun z15 => og (vp_in (x1 : Int32) 3) (bk (x1 + 1) (z15.2.1, mo_uA z15.2.2 7 (upd (z15.2.2 7) (x1 : Int32).toNatClampNeg z15.1))))))))
set_option maxRecDepth 100000 in
set_option maxHeartbeats 4000000 in
theorem tj_readHead_139 {h : mj_H} {r : mo_G} (hl : 39 < h.length) {K : mo_G → Option mo_G} {bk : Int32 → mo_G → Option mo_G} (hK : (∀ (g : mo_G), K g = some r → mj_W M_Mo_readHead (mj_q none (mo_up h r)) (2, 45, none) 0 0 178 [some (.ref 27), none] [] (mo_up h g))) (hbk : (∀ (x1 : Int32) (g : mo_G), bk x1 g = some r → mj_W M_Mo_readHead (mj_q none (mo_up h r)) (2, 45, none) 0 0 99 [some (.ref 27), some (.int x1)] [] (mo_up h g))) {x1 : Int32} {s0 : Int32} {s2 : Int32} {g : mo_G} (hk : j_readHead_139 K bk x1 s0 s2 g = some r) : mj_W M_Mo_readHead (mj_q none (mo_up h r)) (2, 45, none) 0 0 139 [some (.ref 27), some (.int x1)] [.int s0, .ref 27, .int s2, .ref 33] (mo_up h g) := by
  unfold j_readHead_139 at hk
  refine mj_bipush (v := 122) d_Mo_readHead_139 (by decide) ?_
  refine mj_iconst (v := 1) d_Mo_readHead_141 (by decide) ?_
  obtain ⟨z11, hz11, hk⟩ := og_b hk
  refine mj_cV (S := [.int s2, .ref 33]) (S1 := [.int z11.1, .int s2, .ref 33]) (tm_next hl hz11) d_Mo_readHead_142 cw_Mo_next ml_Mo_188 im_Mo_next se_Mo_next rfl (mo_h hl) (by decide) rfl (Nat.le_of_ble_eq_true rfl) rfl rfl ?_
  have q12 := og_1 hk
  replace hk := og_2 hk
  refine mj_iast (f := (z11.2.2 5)) d_Mo_readHead_145 (mo_a5 hl) q12 ?_
  refine mj_hp (h1 := mo_up h (z11.2.1, mo_uA z11.2.2 5 (upd (z11.2.2 5) (s2 : Int32).toNatClampNeg z11.1))) (mo_b5 (g := z11.2) hl (upd (z11.2.2 5) (s2 : Int32).toNatClampNeg z11.1)) ?_
  refine mj_aload_n d_Mo_readHead_146 rfl ?_
  refine mj_get ok_Mo (k := 12) (v := .ref 34) (by decide) fl_Mo_41 d_Mo_readHead_147 (mo_h hl) rfl ?_
  refine mj_iload_n d_Mo_readHead_150 rfl ?_
  refine mj_aload_n d_Mo_readHead_151 rfl ?_
  refine mj_iconst (v := 0) d_Mo_readHead_152 (by decide) ?_
  refine mj_iconst (v := 2) d_Mo_readHead_153 (by decide) ?_
  refine mj_iconst (v := 1) d_Mo_readHead_154 (by decide) ?_
  obtain ⟨z13, hz13, hk⟩ := og_b hk
  refine mj_cV (S := [.int x1, .ref 34]) (S1 := [.int z13.1, .int x1, .ref 34]) (tm_next hl hz13) d_Mo_readHead_155 cw_Mo_next ml_Mo_188 im_Mo_next se_Mo_next rfl (mo_h hl) (by decide) rfl (Nat.le_of_ble_eq_true rfl) rfl rfl ?_
  have q14 := og_1 hk
  replace hk := og_2 hk
  refine mj_iast (f := (z13.2.2 6)) d_Mo_readHead_158 (mo_a6 hl) q14 ?_
  refine mj_hp (h1 := mo_up h (z13.2.1, mo_uA z13.2.2 6 (upd (z13.2.2 6) (x1 : Int32).toNatClampNeg z13.1))) (mo_b6 (g := z13.2) hl (upd (z13.2.2 6) (x1 : Int32).toNatClampNeg z13.1)) ?_
  refine mj_aload_n d_Mo_readHead_159 rfl ?_
  refine mj_get ok_Mo (k := 13) (v := .ref 35) (by decide) fl_Mo_44 d_Mo_readHead_160 (mo_h hl) rfl ?_
  refine mj_iload_n d_Mo_readHead_163 rfl ?_
  refine mj_aload_n d_Mo_readHead_164 rfl ?_
  refine mj_iconst (v := 1) d_Mo_readHead_165 (by decide) ?_
  refine mj_iconst (v := 2) d_Mo_readHead_166 (by decide) ?_
  refine mj_iconst (v := 1) d_Mo_readHead_167 (by decide) ?_
  obtain ⟨z15, hz15, hk⟩ := og_b hk
  refine mj_cV (S := [.int x1, .ref 35]) (S1 := [.int z15.1, .int x1, .ref 35]) (tm_next hl hz15) d_Mo_readHead_168 cw_Mo_next ml_Mo_188 im_Mo_next se_Mo_next rfl (mo_h hl) (by decide) rfl (Nat.le_of_ble_eq_true rfl) rfl rfl ?_
  have q16 := og_1 hk
  replace hk := og_2 hk
  refine mj_iast (f := (z15.2.2 7)) d_Mo_readHead_171 (mo_a7 hl) q16 ?_
  refine mj_hp (h1 := mo_up h (z15.2.1, mo_uA z15.2.2 7 (upd (z15.2.2 7) (x1 : Int32).toNatClampNeg z15.1))) (mo_b7 (g := z15.2) hl (upd (z15.2.2 7) (x1 : Int32).toNatClampNeg z15.1)) ?_
  refine mj_iinc (x := x1) (v := x1 + 1) (L' := [some (.ref 27), some (.int (x1 + 1))]) d_Mo_readHead_172 rfl rfl (by decide) rfl rfl ?_
  refine mj_goto (tgt := 99) d_Mo_readHead_175 (by decide) ?_
  exact hbk _ _ hk
noncomputable def l_readHead_99 (K : mo_G → Option mo_G) : Nat → Int32 → mo_G → Option mo_G
  | 0, _, _ => none
  | n + 1, x1, g => if (g.1 12) ≤ x1 then (K g) else (if (g.1 9) = 0 then (if x1 = 0 then (j_readHead_139 K (fun x1 g => l_readHead_99 K n x1 g) x1 97 x1 g) else (og (vp_in ((x1 - 1) : Int32) 3) (j_readHead_139 K (fun x1 g => l_readHead_99 K n x1 g) x1 (((((g.2 5) ((x1 - 1) : Int32).toNatClampNeg)) + 1)) x1 g))) else (K g))
set_option maxRecDepth 100000 in
set_option maxHeartbeats 4000000 in
theorem tl_readHead_99 {h : mj_H} {r : mo_G} (hl : 39 < h.length) {K : mo_G → Option mo_G} (hK : (∀ (g : mo_G), K g = some r → mj_W M_Mo_readHead (mj_q none (mo_up h r)) (2, 45, none) 0 0 178 [some (.ref 27), none] [] (mo_up h g))) : ∀ (n : Nat) (x1 : Int32) (g : mo_G), l_readHead_99 K n x1 g = some r → mj_W M_Mo_readHead (mj_q none (mo_up h r)) (2, 45, none) 0 0 99 [some (.ref 27), some (.int x1)] [] (mo_up h g) := by
  intro n
  induction n with
  | zero =>
    intro x1 g hk
    cases hk
  | succ n hbk =>
    intro x1 g hk
    rw [l_readHead_99] at hk
    refine mj_iload_n d_Mo_readHead_99 rfl ?_
    refine mj_aload_n d_Mo_readHead_100 rfl ?_
    refine mj_get ok_Mo (k := 24) (v := .int (g.1 12)) (by decide) fl_Mo_200 d_Mo_readHead_101 (mo_h hl) rfl ?_
    refine mj_icmp_ge (tgt := 178) d_Mo_readHead_104 (by decide) (fun c_104 => ?_) (fun c_104 => ?_)
    · replace hk := og_pos c_104 hk
      refine mj_fg 1 (L' := [some (.ref 27), none]) rfl ?_
      exact hK _ hk
    · replace hk := og_neg c_104 hk
      refine mj_aload_n d_Mo_readHead_107 rfl ?_
      refine mj_get ok_Mo (k := 21) (v := .int (g.1 9)) (by decide) fl_Mo_179 d_Mo_readHead_108 (mo_h hl) rfl ?_
      refine mj_if_ne (tgt := 178) d_Mo_readHead_111 (by decide) (fun c_111 => ?_) (fun c_111 => ?_)
      · replace hk := og_neg c_111 hk
        refine mj_fg 1 (L' := [some (.ref 27), none]) rfl ?_
        exact hK _ hk
      · replace hk := og_pos c_111 hk
        refine mj_aload_n d_Mo_readHead_114 rfl ?_
        refine mj_get ok_Mo (k := 11) (v := .ref 33) (by decide) fl_Mo_38 d_Mo_readHead_115 (mo_h hl) rfl ?_
        refine mj_iload_n d_Mo_readHead_118 rfl ?_
        refine mj_aload_n d_Mo_readHead_119 rfl ?_
        refine mj_iload_n d_Mo_readHead_120 rfl ?_
        refine mj_if_ne (tgt := 129) d_Mo_readHead_121 (by decide) (fun c_121 => ?_) (fun c_121 => ?_)
        · replace hk := og_neg c_121 hk
          refine mj_aload_n d_Mo_readHead_129 rfl ?_
          refine mj_get ok_Mo (k := 11) (v := .ref 33) (by decide) fl_Mo_38 d_Mo_readHead_130 (mo_h hl) rfl ?_
          refine mj_iload_n d_Mo_readHead_133 rfl ?_
          refine mj_iconst (v := 1) d_Mo_readHead_134 (by decide) ?_
          refine mj_isub d_Mo_readHead_135 ?_
          have q10 := og_1 hk
          replace hk := og_2 hk
          refine mj_iald (f := (g.2 5)) d_Mo_readHead_136 (mo_a5 hl) q10 ?_
          refine mj_iconst (v := 1) d_Mo_readHead_137 (by decide) ?_
          refine mj_iadd d_Mo_readHead_138 ?_
          exact tj_readHead_139 hl hK hbk hk
        · replace hk := og_pos c_121 hk
          refine mj_bipush (v := 97) d_Mo_readHead_124 (by decide) ?_
          refine mj_goto (tgt := 139) d_Mo_readHead_126 (by decide) ?_
          exact tj_readHead_139 hl hK hbk hk
noncomputable def r_readHead (g : mo_G) : Option mo_G := (r_next 118 118 1 (upd g.1 8 0, g.2)).bind (fun z1 => (r_next 47 47 1 z1.2).bind (fun z2 => (r_next 49 49 1 z2.2).bind (fun z3 => (r_next 1 1 1 z3.2).bind (fun z4 => (r_next 2 2 2 z4.2).bind (fun z5 => (r_next 1 8 1 z5.2).bind (fun z6 => (r_next 1 8 1 (upd z6.2.1 10 z6.1, z6.2.2)).bind (fun z7 => (r_next 0 3 2 (upd z7.2.1 11 z7.1, z7.2.2)).bind (fun z8 => (r_next 1 3 1 (upd z8.2.1 13 z8.1, z8.2.2)).bind (fun z9 => l_readHead_99 (fun  g17 => some g17) 2000 0 (upd z9.2.1 12 z9.1, z9.2.2))))))))))
set_option maxRecDepth 100000 in
set_option maxHeartbeats 4000000 in
theorem tm_readHead {h : mj_H} {r : mo_G} (hl : 39 < h.length) {g : mo_G} (hk : r_readHead g = some r) : mj_Met M_Mo_readHead (2, 45, none) 0 0 [.ref 27] (mo_up h g) (mj_q none (mo_up h r)) := by
  unfold r_readHead at hk
  refine mj_enter (r := 1) rfl rfl (by decide) rfl ?_
  show mj_W M_Mo_readHead _ _ _ _ 0 [some (.ref 27), none] [] (mo_up h g)
  refine mj_aload_n d_Mo_readHead_0 rfl ?_
  refine mj_iconst (v := 0) d_Mo_readHead_1 (by decide) ?_
  refine mj_put ok_Mo (k := 20) (by decide) fl_Mo_182 rfl (fun _ => rfl) (fun _ => rfl) (Nat.le_of_ble_eq_true rfl) d_Mo_readHead_2 (mo_h hl) ?_
  refine mj_hp (h1 := mo_up h (upd g.1 8 0, g.2)) (mo_p8 (g := g) hl 0) ?_
  refine mj_aload_n d_Mo_readHead_5 rfl ?_
  refine mj_bipush (v := 118) d_Mo_readHead_6 (by decide) ?_
  refine mj_bipush (v := 118) d_Mo_readHead_8 (by decide) ?_
  refine mj_iconst (v := 1) d_Mo_readHead_10 (by decide) ?_
  obtain ⟨z1, hz1, hk⟩ := og_b hk
  refine mj_cV (S := []) (S1 := [.int z1.1]) (tm_next hl hz1) d_Mo_readHead_11 cw_Mo_next ml_Mo_188 im_Mo_next se_Mo_next rfl (mo_h hl) (by decide) rfl (Nat.le_of_ble_eq_true rfl) rfl rfl ?_
  refine mj_pop d_Mo_readHead_14 rfl ?_
  refine mj_aload_n d_Mo_readHead_15 rfl ?_
  refine mj_bipush (v := 47) d_Mo_readHead_16 (by decide) ?_
  refine mj_bipush (v := 47) d_Mo_readHead_18 (by decide) ?_
  refine mj_iconst (v := 1) d_Mo_readHead_20 (by decide) ?_
  obtain ⟨z2, hz2, hk⟩ := og_b hk
  refine mj_cV (S := []) (S1 := [.int z2.1]) (tm_next hl hz2) d_Mo_readHead_21 cw_Mo_next ml_Mo_188 im_Mo_next se_Mo_next rfl (mo_h hl) (by decide) rfl (Nat.le_of_ble_eq_true rfl) rfl rfl ?_
  refine mj_pop d_Mo_readHead_24 rfl ?_
  refine mj_aload_n d_Mo_readHead_25 rfl ?_
  refine mj_bipush (v := 49) d_Mo_readHead_26 (by decide) ?_
  refine mj_bipush (v := 49) d_Mo_readHead_28 (by decide) ?_
  refine mj_iconst (v := 1) d_Mo_readHead_30 (by decide) ?_
  obtain ⟨z3, hz3, hk⟩ := og_b hk
  refine mj_cV (S := []) (S1 := [.int z3.1]) (tm_next hl hz3) d_Mo_readHead_31 cw_Mo_next ml_Mo_188 im_Mo_next se_Mo_next rfl (mo_h hl) (by decide) rfl (Nat.le_of_ble_eq_true rfl) rfl rfl ?_
  refine mj_pop d_Mo_readHead_34 rfl ?_
  refine mj_aload_n d_Mo_readHead_35 rfl ?_
  refine mj_iconst (v := 1) d_Mo_readHead_36 (by decide) ?_
  refine mj_iconst (v := 1) d_Mo_readHead_37 (by decide) ?_
  refine mj_iconst (v := 1) d_Mo_readHead_38 (by decide) ?_
  obtain ⟨z4, hz4, hk⟩ := og_b hk
  refine mj_cV (S := []) (S1 := [.int z4.1]) (tm_next hl hz4) d_Mo_readHead_39 cw_Mo_next ml_Mo_188 im_Mo_next se_Mo_next rfl (mo_h hl) (by decide) rfl (Nat.le_of_ble_eq_true rfl) rfl rfl ?_
  refine mj_pop d_Mo_readHead_42 rfl ?_
  refine mj_aload_n d_Mo_readHead_43 rfl ?_
  refine mj_iconst (v := 2) d_Mo_readHead_44 (by decide) ?_
  refine mj_iconst (v := 2) d_Mo_readHead_45 (by decide) ?_
  refine mj_iconst (v := 2) d_Mo_readHead_46 (by decide) ?_
  obtain ⟨z5, hz5, hk⟩ := og_b hk
  refine mj_cV (S := []) (S1 := [.int z5.1]) (tm_next hl hz5) d_Mo_readHead_47 cw_Mo_next ml_Mo_188 im_Mo_next se_Mo_next rfl (mo_h hl) (by decide) rfl (Nat.le_of_ble_eq_true rfl) rfl rfl ?_
  refine mj_pop d_Mo_readHead_50 rfl ?_
  refine mj_aload_n d_Mo_readHead_51 rfl ?_
  refine mj_aload_n d_Mo_readHead_52 rfl ?_
  refine mj_iconst (v := 1) d_Mo_readHead_53 (by decide) ?_
  refine mj_bipush (v := 8) d_Mo_readHead_54 (by decide) ?_
  refine mj_iconst (v := 1) d_Mo_readHead_56 (by decide) ?_
  obtain ⟨z6, hz6, hk⟩ := og_b hk
  refine mj_cV (S := [.ref 27]) (S1 := [.int z6.1, .ref 27]) (tm_next hl hz6) d_Mo_readHead_57 cw_Mo_next ml_Mo_188 im_Mo_next se_Mo_next rfl (mo_h hl) (by decide) rfl (Nat.le_of_ble_eq_true rfl) rfl rfl ?_
  refine mj_put ok_Mo (k := 22) (by decide) fl_Mo_191 rfl (fun _ => rfl) (fun _ => rfl) (Nat.le_of_ble_eq_true rfl) d_Mo_readHead_60 (mo_h hl) ?_
  refine mj_hp (h1 := mo_up h (upd z6.2.1 10 z6.1, z6.2.2)) (mo_p10 (g := z6.2) hl z6.1) ?_
  refine mj_aload_n d_Mo_readHead_63 rfl ?_
  refine mj_aload_n d_Mo_readHead_64 rfl ?_
  refine mj_iconst (v := 1) d_Mo_readHead_65 (by decide) ?_
  refine mj_bipush (v := 8) d_Mo_readHead_66 (by decide) ?_
  refine mj_iconst (v := 1) d_Mo_readHead_68 (by decide) ?_
  obtain ⟨z7, hz7, hk⟩ := og_b hk
  refine mj_cV (S := [.ref 27]) (S1 := [.int z7.1, .ref 27]) (tm_next hl hz7) d_Mo_readHead_69 cw_Mo_next ml_Mo_188 im_Mo_next se_Mo_next rfl (mo_h hl) (by decide) rfl (Nat.le_of_ble_eq_true rfl) rfl rfl ?_
  refine mj_put ok_Mo (k := 23) (by decide) fl_Mo_194 rfl (fun _ => rfl) (fun _ => rfl) (Nat.le_of_ble_eq_true rfl) d_Mo_readHead_72 (mo_h hl) ?_
  refine mj_hp (h1 := mo_up h (upd z7.2.1 11 z7.1, z7.2.2)) (mo_p11 (g := z7.2) hl z7.1) ?_
  refine mj_aload_n d_Mo_readHead_75 rfl ?_
  refine mj_aload_n d_Mo_readHead_76 rfl ?_
  refine mj_iconst (v := 0) d_Mo_readHead_77 (by decide) ?_
  refine mj_iconst (v := 3) d_Mo_readHead_78 (by decide) ?_
  refine mj_iconst (v := 2) d_Mo_readHead_79 (by decide) ?_
  obtain ⟨z8, hz8, hk⟩ := og_b hk
  refine mj_cV (S := [.ref 27]) (S1 := [.int z8.1, .ref 27]) (tm_next hl hz8) d_Mo_readHead_80 cw_Mo_next ml_Mo_188 im_Mo_next se_Mo_next rfl (mo_h hl) (by decide) rfl (Nat.le_of_ble_eq_true rfl) rfl rfl ?_
  refine mj_put ok_Mo (k := 25) (by decide) fl_Mo_197 rfl (fun _ => rfl) (fun _ => rfl) (Nat.le_of_ble_eq_true rfl) d_Mo_readHead_83 (mo_h hl) ?_
  refine mj_hp (h1 := mo_up h (upd z8.2.1 13 z8.1, z8.2.2)) (mo_p13 (g := z8.2) hl z8.1) ?_
  refine mj_aload_n d_Mo_readHead_86 rfl ?_
  refine mj_aload_n d_Mo_readHead_87 rfl ?_
  refine mj_iconst (v := 1) d_Mo_readHead_88 (by decide) ?_
  refine mj_iconst (v := 3) d_Mo_readHead_89 (by decide) ?_
  refine mj_iconst (v := 1) d_Mo_readHead_90 (by decide) ?_
  obtain ⟨z9, hz9, hk⟩ := og_b hk
  refine mj_cV (S := [.ref 27]) (S1 := [.int z9.1, .ref 27]) (tm_next hl hz9) d_Mo_readHead_91 cw_Mo_next ml_Mo_188 im_Mo_next se_Mo_next rfl (mo_h hl) (by decide) rfl (Nat.le_of_ble_eq_true rfl) rfl rfl ?_
  refine mj_put ok_Mo (k := 24) (by decide) fl_Mo_200 rfl (fun _ => rfl) (fun _ => rfl) (Nat.le_of_ble_eq_true rfl) d_Mo_readHead_94 (mo_h hl) ?_
  refine mj_hp (h1 := mo_up h (upd z9.2.1 12 z9.1, z9.2.2)) (mo_p12 (g := z9.2) hl z9.1) ?_
  refine mj_iconst (v := 0) d_Mo_readHead_97 (by decide) ?_
  refine mj_istore_n (L' := [some (.ref 27), some (.int 0)]) d_Mo_readHead_98 (by decide) rfl rfl ?_
  refine tl_readHead_99 hl ?_ 2000 _ _ hk
  intro  g17 hk
  cases hk
  exact mj_vret rfl d_Mo_readHead_178 ⟨rfl, rfl⟩
noncomputable def r_two (g : mo_G) : Option (Prod Int32 mo_G) := (r_next 0 255 1 g).bind (fun z1 => (r_next 0 255 1 z1.2).bind (fun z2 => some ((z1.1 + (256 * z2.1)), z2.2)))
set_option maxRecDepth 100000 in
set_option maxHeartbeats 4000000 in
theorem tm_two {h : mj_H} {r : (Prod Int32 mo_G)} (hl : 39 < h.length) {g : mo_G} (hk : r_two g = some r) : mj_Met M_Mo_two (2, 45, none) 0 0 [.ref 27] (mo_up h g) (mj_q (some (.int r.1)) (mo_up h r.2)) := by
  unfold r_two at hk
  refine mj_enter (r := 1) rfl rfl (by decide) rfl ?_
  show mj_W M_Mo_two _ _ _ _ 0 [some (.ref 27), none] [] (mo_up h g)
  refine mj_aload_n d_Mo_two_0 rfl ?_
  refine mj_iconst (v := 0) d_Mo_two_1 (by decide) ?_
  refine mj_sipush (v := 255) d_Mo_two_2 (by decide) ?_
  refine mj_iconst (v := 1) d_Mo_two_5 (by decide) ?_
  obtain ⟨z1, hz1, hk⟩ := og_b hk
  refine mj_cV (S := []) (S1 := [.int z1.1]) (tm_next hl hz1) d_Mo_two_6 cw_Mo_next ml_Mo_188 im_Mo_next se_Mo_next rfl (mo_h hl) (by decide) rfl (Nat.le_of_ble_eq_true rfl) rfl rfl ?_
  refine mj_istore_n (L' := [some (.ref 27), some (.int z1.1)]) d_Mo_two_9 (by decide) rfl rfl ?_
  refine mj_iload_n d_Mo_two_10 rfl ?_
  refine mj_sipush (v := 256) d_Mo_two_11 (by decide) ?_
  refine mj_aload_n d_Mo_two_14 rfl ?_
  refine mj_iconst (v := 0) d_Mo_two_15 (by decide) ?_
  refine mj_sipush (v := 255) d_Mo_two_16 (by decide) ?_
  refine mj_iconst (v := 1) d_Mo_two_19 (by decide) ?_
  obtain ⟨z2, hz2, hk⟩ := og_b hk
  refine mj_cV (S := [.int 256, .int z1.1]) (S1 := [.int z2.1, .int 256, .int z1.1]) (tm_next hl hz2) d_Mo_two_20 cw_Mo_next ml_Mo_188 im_Mo_next se_Mo_next rfl (mo_h hl) (by decide) rfl (Nat.le_of_ble_eq_true rfl) rfl rfl ?_
  refine mj_imul d_Mo_two_23 ?_
  refine mj_iadd d_Mo_two_24 ?_
  cases hk
  exact mj_iret rfl d_Mo_two_25 ⟨rfl, rfl⟩
noncomputable def j_readOffsets_131 (K : mo_G → Option mo_G) (bk : Int32 → Int32 → Int32 → Int32 → mo_G → Option mo_G) (x1 : Int32) (x2 : Int32) (x4 : Int32) (s0 : Int32) (g : mo_G) : Option mo_G := bk x1 x2 s0 (x4 + 1) g
set_option maxRecDepth 100000 in
set_option maxHeartbeats 4000000 in
theorem tj_readOffsets_131 {h : mj_H} {r : mo_G} (hl : 39 < h.length) {K : mo_G → Option mo_G} {bk : Int32 → Int32 → Int32 → Int32 → mo_G → Option mo_G} (hK : (∀ (g : mo_G), K g = some r → mj_W M_Mo_readOffsets (mj_q none (mo_up h r)) (3, 66, none) 0 0 138 [some (.ref 27), none, none, none, none, none, none] [] (mo_up h g))) (hbk : (∀ (x1 : Int32) (x2 : Int32) (x3 : Int32) (x4 : Int32) (g : mo_G), bk x1 x2 x3 x4 g = some r → mj_W M_Mo_readOffsets (mj_q none (mo_up h r)) (3, 66, none) 0 0 14 [some (.ref 27), some (.int x1), some (.int x2), some (.int x3), some (.int x4), none, none] [] (mo_up h g))) {x1 : Int32} {x2 : Int32} {x4 : Int32} {s0 : Int32} {g : mo_G} (hk : j_readOffsets_131 K bk x1 x2 x4 s0 g = some r) : mj_W M_Mo_readOffsets (mj_q none (mo_up h r)) (3, 66, none) 0 0 131 [some (.ref 27), some (.int x1), some (.int x2), none, some (.int x4), none, none] [.int s0] (mo_up h g) := by
  unfold j_readOffsets_131 at hk
  refine mj_istore_n (L' := [some (.ref 27), some (.int x1), some (.int x2), some (.int s0), some (.int x4), none, none]) d_Mo_readOffsets_131 (by decide) rfl rfl ?_
  refine mj_iinc (x := x4) (v := x4 + 1) (L' := [some (.ref 27), some (.int x1), some (.int x2), some (.int s0), some (.int (x4 + 1)), none, none]) d_Mo_readOffsets_132 rfl rfl (by decide) rfl rfl ?_
  refine mj_goto (tgt := 14) d_Mo_readOffsets_135 (by decide) ?_
  exact hbk _ _ _ _ _ hk
noncomputable def j_readOffsets_130 (K : mo_G → Option mo_G) (bk : Int32 → Int32 → Int32 → Int32 → mo_G → Option mo_G) (x1 : Int32) (x2 : Int32) (x4 : Int32) (g : mo_G) : Option mo_G := j_readOffsets_131 K bk x1 x2 x4 0 g
set_option maxRecDepth 100000 in
set_option maxHeartbeats 4000000 in
theorem tj_readOffsets_130 {h : mj_H} {r : mo_G} (hl : 39 < h.length) {K : mo_G → Option mo_G} {bk : Int32 → Int32 → Int32 → Int32 → mo_G → Option mo_G} (hK : (∀ (g : mo_G), K g = some r → mj_W M_Mo_readOffsets (mj_q none (mo_up h r)) (3, 66, none) 0 0 138 [some (.ref 27), none, none, none, none, none, none] [] (mo_up h g))) (hbk : (∀ (x1 : Int32) (x2 : Int32) (x3 : Int32) (x4 : Int32) (g : mo_G), bk x1 x2 x3 x4 g = some r → mj_W M_Mo_readOffsets (mj_q none (mo_up h r)) (3, 66, none) 0 0 14 [some (.ref 27), some (.int x1), some (.int x2), some (.int x3), some (.int x4), none, none] [] (mo_up h g))) {x1 : Int32} {x2 : Int32} {x4 : Int32} {g : mo_G} (hk : j_readOffsets_130 K bk x1 x2 x4 g = some r) : mj_W M_Mo_readOffsets (mj_q none (mo_up h r)) (3, 66, none) 0 0 130 [some (.ref 27), some (.int x1), some (.int x2), none, some (.int x4), none, none] [] (mo_up h g) := by
  unfold j_readOffsets_130 at hk
  refine mj_iconst (v := 0) d_Mo_readOffsets_130 (by decide) ?_
  exact tj_readOffsets_131 hl hK hbk hk
noncomputable def j_readOffsets_114 (K : mo_G → Option mo_G) (bk : Int32 → Int32 → Int32 → Int32 → mo_G → Option mo_G) (x1 : Int32) (x2 : Int32) (x3 : Int32) (x4 : Int32) (g : mo_G) : Option mo_G := if x3 = 0 then (j_readOffsets_130 K bk x1 x2 x4 g) else (if (g.1 3) < x2 then (j_readOffsets_130 K bk x1 x2 x4 g) else (j_readOffsets_131 K bk x1 x2 x4 1 g))
set_option maxRecDepth 100000 in
set_option maxHeartbeats 4000000 in
theorem tj_readOffsets_114 {h : mj_H} {r : mo_G} (hl : 39 < h.length) {K : mo_G → Option mo_G} {bk : Int32 → Int32 → Int32 → Int32 → mo_G → Option mo_G} (hK : (∀ (g : mo_G), K g = some r → mj_W M_Mo_readOffsets (mj_q none (mo_up h r)) (3, 66, none) 0 0 138 [some (.ref 27), none, none, none, none, none, none] [] (mo_up h g))) (hbk : (∀ (x1 : Int32) (x2 : Int32) (x3 : Int32) (x4 : Int32) (g : mo_G), bk x1 x2 x3 x4 g = some r → mj_W M_Mo_readOffsets (mj_q none (mo_up h r)) (3, 66, none) 0 0 14 [some (.ref 27), some (.int x1), some (.int x2), some (.int x3), some (.int x4), none, none] [] (mo_up h g))) {x1 : Int32} {x2 : Int32} {x3 : Int32} {x4 : Int32} {g : mo_G} (hk : j_readOffsets_114 K bk x1 x2 x3 x4 g = some r) : mj_W M_Mo_readOffsets (mj_q none (mo_up h r)) (3, 66, none) 0 0 114 [some (.ref 27), some (.int x1), some (.int x2), some (.int x3), some (.int x4), none, none] [] (mo_up h g) := by
  unfold j_readOffsets_114 at hk
  refine mj_iload_n d_Mo_readOffsets_114 rfl ?_
  refine mj_if_eq (tgt := 130) d_Mo_readOffsets_115 (by decide) (fun c_115 => ?_) (fun c_115 => ?_)
  · replace hk := og_pos c_115 hk
    refine mj_fg 3 (L' := [some (.ref 27), some (.int x1), some (.int x2), none, some (.int x4), none, none]) rfl ?_
    exact tj_readOffsets_130 hl hK hbk hk
  · replace hk := og_neg c_115 hk
    refine mj_iload_n d_Mo_readOffsets_118 rfl ?_
    refine mj_aload_n d_Mo_readOffsets_119 rfl ?_
    refine mj_get ok_Mo (k := 3) (v := .int (g.1 3)) (by decide) fl_Mo_158 d_Mo_readOffsets_120 (mo_h hl) rfl ?_
    refine mj_icmp_gt (tgt := 130) d_Mo_readOffsets_123 (by decide) (fun c_123 => ?_) (fun c_123 => ?_)
    · replace hk := og_pos c_123 hk
      refine mj_fg 3 (L' := [some (.ref 27), some (.int x1), some (.int x2), none, some (.int x4), none, none]) rfl ?_
      exact tj_readOffsets_130 hl hK hbk hk
    · replace hk := og_neg c_123 hk
      refine mj_iconst (v := 1) d_Mo_readOffsets_126 (by decide) ?_
      refine mj_goto (tgt := 131) d_Mo_readOffsets_127 (by decide) ?_
      refine mj_fg 3 (L' := [some (.ref 27), some (.int x1), some (.int x2), none, some (.int x4), none, none]) rfl ?_
      exact tj_readOffsets_131 hl hK hbk hk
noncomputable def j_readOffsets_83 (K : mo_G → Option mo_G) (bk : Int32 → Int32 → Int32 → Int32 → mo_G → Option mo_G) (x1 : Int32) (x2 : Int32) (x4 : Int32) (s0 : Int32) (g : mo_G) : Option mo_G := if s0 = 0 then (j_readOffsets_114 K bk x1 x2 s0 x4 g) else (og (vp_in ((x2 + 1) : Int32) 1500) (og (vp_in ((x2 + 2) : Int32) 1500) (j_readOffsets_114 K bk x1 ((x2 + ((((3 + (((g.2 4) ((x2 + 1) : Int32).toNatClampNeg)))) + ((256 * (((g.2 4) ((x2 + 2) : Int32).toNatClampNeg)))))))) s0 x4 g)))
set_option maxRecDepth 100000 in
set_option maxHeartbeats 4000000 in
theorem tj_readOffsets_83 {h : mj_H} {r : mo_G} (hl : 39 < h.length) {K : mo_G → Option mo_G} {bk : Int32 → Int32 → Int32 → Int32 → mo_G → Option mo_G} (hK : (∀ (g : mo_G), K g = some r → mj_W M_Mo_readOffsets (mj_q none (mo_up h r)) (3, 66, none) 0 0 138 [some (.ref 27), none, none, none, none, none, none] [] (mo_up h g))) (hbk : (∀ (x1 : Int32) (x2 : Int32) (x3 : Int32) (x4 : Int32) (g : mo_G), bk x1 x2 x3 x4 g = some r → mj_W M_Mo_readOffsets (mj_q none (mo_up h r)) (3, 66, none) 0 0 14 [some (.ref 27), some (.int x1), some (.int x2), some (.int x3), some (.int x4), none, none] [] (mo_up h g))) {x1 : Int32} {x2 : Int32} {x4 : Int32} {s0 : Int32} {g : mo_G} (hk : j_readOffsets_83 K bk x1 x2 x4 s0 g = some r) : mj_W M_Mo_readOffsets (mj_q none (mo_up h r)) (3, 66, none) 0 0 83 [some (.ref 27), some (.int x1), some (.int x2), none, some (.int x4), none, none] [.int s0] (mo_up h g) := by
  unfold j_readOffsets_83 at hk
  refine mj_istore_n (L' := [some (.ref 27), some (.int x1), some (.int x2), some (.int s0), some (.int x4), none, none]) d_Mo_readOffsets_83 (by decide) rfl rfl ?_
  refine mj_iload_n d_Mo_readOffsets_84 rfl ?_
  refine mj_if_eq (tgt := 114) d_Mo_readOffsets_85 (by decide) (fun c_85 => ?_) (fun c_85 => ?_)
  · replace hk := og_pos c_85 hk
    exact tj_readOffsets_114 hl hK hbk hk
  · replace hk := og_neg c_85 hk
    refine mj_iload_n d_Mo_readOffsets_88 rfl ?_
    refine mj_iconst (v := 3) d_Mo_readOffsets_89 (by decide) ?_
    refine mj_aload_n d_Mo_readOffsets_90 rfl ?_
    refine mj_get ok_Mo (k := 10) (v := .ref 32) (by decide) fl_Mo_35 d_Mo_readOffsets_91 (mo_h hl) rfl ?_
    refine mj_iload_n d_Mo_readOffsets_94 rfl ?_
    refine mj_iconst (v := 1) d_Mo_readOffsets_95 (by decide) ?_
    refine mj_iadd d_Mo_readOffsets_96 ?_
    have q2 := og_1 hk
    replace hk := og_2 hk
    refine mj_iald (f := (g.2 4)) d_Mo_readOffsets_97 (mo_a4 hl) q2 ?_
    refine mj_iadd d_Mo_readOffsets_98 ?_
    refine mj_sipush (v := 256) d_Mo_readOffsets_99 (by decide) ?_
    refine mj_aload_n d_Mo_readOffsets_102 rfl ?_
    refine mj_get ok_Mo (k := 10) (v := .ref 32) (by decide) fl_Mo_35 d_Mo_readOffsets_103 (mo_h hl) rfl ?_
    refine mj_iload_n d_Mo_readOffsets_106 rfl ?_
    refine mj_iconst (v := 2) d_Mo_readOffsets_107 (by decide) ?_
    refine mj_iadd d_Mo_readOffsets_108 ?_
    have q3 := og_1 hk
    replace hk := og_2 hk
    refine mj_iald (f := (g.2 4)) d_Mo_readOffsets_109 (mo_a4 hl) q3 ?_
    refine mj_imul d_Mo_readOffsets_110 ?_
    refine mj_iadd d_Mo_readOffsets_111 ?_
    refine mj_iadd d_Mo_readOffsets_112 ?_
    refine mj_istore_n (L' := [some (.ref 27), some (.int x1), some (.int (x2 + ((((3 + (((g.2 4) ((x2 + 1) : Int32).toNatClampNeg)))) + ((256 * (((g.2 4) ((x2 + 2) : Int32).toNatClampNeg)))))))), some (.int s0), some (.int x4), none, none]) d_Mo_readOffsets_113 (by decide) rfl rfl ?_
    exact tj_readOffsets_114 hl hK hbk hk
noncomputable def j_readOffsets_82 (K : mo_G → Option mo_G) (bk : Int32 → Int32 → Int32 → Int32 → mo_G → Option mo_G) (x1 : Int32) (x2 : Int32) (x4 : Int32) (g : mo_G) : Option mo_G := j_readOffsets_83 K bk x1 x2 x4 0 g
set_option maxRecDepth 100000 in
set_option maxHeartbeats 4000000 in
theorem tj_readOffsets_82 {h : mj_H} {r : mo_G} (hl : 39 < h.length) {K : mo_G → Option mo_G} {bk : Int32 → Int32 → Int32 → Int32 → mo_G → Option mo_G} (hK : (∀ (g : mo_G), K g = some r → mj_W M_Mo_readOffsets (mj_q none (mo_up h r)) (3, 66, none) 0 0 138 [some (.ref 27), none, none, none, none, none, none] [] (mo_up h g))) (hbk : (∀ (x1 : Int32) (x2 : Int32) (x3 : Int32) (x4 : Int32) (g : mo_G), bk x1 x2 x3 x4 g = some r → mj_W M_Mo_readOffsets (mj_q none (mo_up h r)) (3, 66, none) 0 0 14 [some (.ref 27), some (.int x1), some (.int x2), some (.int x3), some (.int x4), none, none] [] (mo_up h g))) {x1 : Int32} {x2 : Int32} {x4 : Int32} {g : mo_G} (hk : j_readOffsets_82 K bk x1 x2 x4 g = some r) : mj_W M_Mo_readOffsets (mj_q none (mo_up h r)) (3, 66, none) 0 0 82 [some (.ref 27), some (.int x1), some (.int x2), none, some (.int x4), none, none] [] (mo_up h g) := by
  unfold j_readOffsets_82 at hk
  refine mj_iconst (v := 0) d_Mo_readOffsets_82 (by decide) ?_
  exact tj_readOffsets_83 hl hK hbk hk
noncomputable def j_readOffsets_64 (K : mo_G → Option mo_G) (bk : Int32 → Int32 → Int32 → Int32 → mo_G → Option mo_G) (x1 : Int32) (x2 : Int32) (x3 : Int32) (x4 : Int32) (g : mo_G) : Option mo_G := if x3 = 0 then (j_readOffsets_82 K bk x1 x2 x4 g) else (if (g.1 3) < (x2 + 3) then (j_readOffsets_82 K bk x1 x2 x4 g) else (j_readOffsets_83 K bk x1 x2 x4 1 g))
set_option maxRecDepth 100000 in
set_option maxHeartbeats 4000000 in
theorem tj_readOffsets_64 {h : mj_H} {r : mo_G} (hl : 39 < h.length) {K : mo_G → Option mo_G} {bk : Int32 → Int32 → Int32 → Int32 → mo_G → Option mo_G} (hK : (∀ (g : mo_G), K g = some r → mj_W M_Mo_readOffsets (mj_q none (mo_up h r)) (3, 66, none) 0 0 138 [some (.ref 27), none, none, none, none, none, none] [] (mo_up h g))) (hbk : (∀ (x1 : Int32) (x2 : Int32) (x3 : Int32) (x4 : Int32) (g : mo_G), bk x1 x2 x3 x4 g = some r → mj_W M_Mo_readOffsets (mj_q none (mo_up h r)) (3, 66, none) 0 0 14 [some (.ref 27), some (.int x1), some (.int x2), some (.int x3), some (.int x4), none, none] [] (mo_up h g))) {x1 : Int32} {x2 : Int32} {x3 : Int32} {x4 : Int32} {g : mo_G} (hk : j_readOffsets_64 K bk x1 x2 x3 x4 g = some r) : mj_W M_Mo_readOffsets (mj_q none (mo_up h r)) (3, 66, none) 0 0 64 [some (.ref 27), some (.int x1), some (.int x2), some (.int x3), some (.int x4), none, none] [] (mo_up h g) := by
  unfold j_readOffsets_64 at hk
  refine mj_iload_n d_Mo_readOffsets_64 rfl ?_
  refine mj_if_eq (tgt := 82) d_Mo_readOffsets_65 (by decide) (fun c_65 => ?_) (fun c_65 => ?_)
  · replace hk := og_pos c_65 hk
    refine mj_fg 3 (L' := [some (.ref 27), some (.int x1), some (.int x2), none, some (.int x4), none, none]) rfl ?_
    exact tj_readOffsets_82 hl hK hbk hk
  · replace hk := og_neg c_65 hk
    refine mj_iload_n d_Mo_readOffsets_68 rfl ?_
    refine mj_iconst (v := 3) d_Mo_readOffsets_69 (by decide) ?_
    refine mj_iadd d_Mo_readOffsets_70 ?_
    refine mj_aload_n d_Mo_readOffsets_71 rfl ?_
    refine mj_get ok_Mo (k := 3) (v := .int (g.1 3)) (by decide) fl_Mo_158 d_Mo_readOffsets_72 (mo_h hl) rfl ?_
    refine mj_icmp_gt (tgt := 82) d_Mo_readOffsets_75 (by decide) (fun c_75 => ?_) (fun c_75 => ?_)
    · replace hk := og_pos c_75 hk
      refine mj_fg 3 (L' := [some (.ref 27), some (.int x1), some (.int x2), none, some (.int x4), none, none]) rfl ?_
      exact tj_readOffsets_82 hl hK hbk hk
    · replace hk := og_neg c_75 hk
      refine mj_iconst (v := 1) d_Mo_readOffsets_78 (by decide) ?_
      refine mj_goto (tgt := 83) d_Mo_readOffsets_79 (by decide) ?_
      refine mj_fg 3 (L' := [some (.ref 27), some (.int x1), some (.int x2), none, some (.int x4), none, none]) rfl ?_
      exact tj_readOffsets_83 hl hK hbk hk
noncomputable def l_readOffsets_14 (K : mo_G → Option mo_G) : Nat → Int32 → Int32 → Int32 → Int32 → mo_G → Option mo_G
  | 0, _, _, _, _, _ => none
  | n + 1, x1, x2, x3, x4, g => if x1 ≤ x4 then (K g) else (if (g.1 9) = 0 then ((r_two  g).bind (fun z1 => if (z1.2.1 9) ≤ 0 then (if x3 = 0 then (j_readOffsets_64 K (fun x1 x2 x3 x4 g => l_readOffsets_14 K n x1 x2 x3 x4 g) x1 x2 x3 x4 z1.2) else (if z1.1 = x2 then (j_readOffsets_64 K (fun x1 x2 x3 x4 g => l_readOffsets_14 K n x1 x2 x3 x4 g) x1 x2 x3 x4 z1.2) else ((r_wrong (g.1 8) 1 z1.2).bind (fun z4 => j_readOffsets_64 K (fun x1 x2 x3 x4 g => l_readOffsets_14 K n x1 x2 x3 x4 g) x1 x2 x3 x4 z4)))) else (some z1.2))) else (K g))
set_option maxRecDepth 100000 in
set_option maxHeartbeats 4000000 in
theorem tl_readOffsets_14 {h : mj_H} {r : mo_G} (hl : 39 < h.length) {K : mo_G → Option mo_G} (hK : (∀ (g : mo_G), K g = some r → mj_W M_Mo_readOffsets (mj_q none (mo_up h r)) (3, 66, none) 0 0 138 [some (.ref 27), none, none, none, none, none, none] [] (mo_up h g))) : ∀ (n : Nat) (x1 : Int32) (x2 : Int32) (x3 : Int32) (x4 : Int32) (g : mo_G), l_readOffsets_14 K n x1 x2 x3 x4 g = some r → mj_W M_Mo_readOffsets (mj_q none (mo_up h r)) (3, 66, none) 0 0 14 [some (.ref 27), some (.int x1), some (.int x2), some (.int x3), some (.int x4), none, none] [] (mo_up h g) := by
  intro n
  induction n with
  | zero =>
    intro x1 x2 x3 x4 g hk
    cases hk
  | succ n hbk =>
    intro x1 x2 x3 x4 g hk
    rw [l_readOffsets_14] at hk
    refine mj_iload d_Mo_readOffsets_14 rfl ?_
    refine mj_iload_n d_Mo_readOffsets_16 rfl ?_
    refine mj_icmp_ge (tgt := 138) d_Mo_readOffsets_17 (by decide) (fun c_17 => ?_) (fun c_17 => ?_)
    · replace hk := og_pos c_17 hk
      refine mj_fg 1 (L' := [some (.ref 27), none, some (.int x2), some (.int x3), some (.int x4), none, none]) rfl ?_
      refine mj_fg 2 (L' := [some (.ref 27), none, none, some (.int x3), some (.int x4), none, none]) rfl ?_
      refine mj_fg 3 (L' := [some (.ref 27), none, none, none, some (.int x4), none, none]) rfl ?_
      refine mj_fg 4 (L' := [some (.ref 27), none, none, none, none, none, none]) rfl ?_
      exact hK _ hk
    · replace hk := og_neg c_17 hk
      refine mj_aload_n d_Mo_readOffsets_20 rfl ?_
      refine mj_get ok_Mo (k := 21) (v := .int (g.1 9)) (by decide) fl_Mo_179 d_Mo_readOffsets_21 (mo_h hl) rfl ?_
      refine mj_if_ne (tgt := 138) d_Mo_readOffsets_24 (by decide) (fun c_24 => ?_) (fun c_24 => ?_)
      · replace hk := og_neg c_24 hk
        refine mj_fg 1 (L' := [some (.ref 27), none, some (.int x2), some (.int x3), some (.int x4), none, none]) rfl ?_
        refine mj_fg 2 (L' := [some (.ref 27), none, none, some (.int x3), some (.int x4), none, none]) rfl ?_
        refine mj_fg 3 (L' := [some (.ref 27), none, none, none, some (.int x4), none, none]) rfl ?_
        refine mj_fg 4 (L' := [some (.ref 27), none, none, none, none, none, none]) rfl ?_
        exact hK _ hk
      · replace hk := og_pos c_24 hk
        refine mj_aload_n d_Mo_readOffsets_27 rfl ?_
        refine mj_get ok_Mo (k := 20) (v := .int (g.1 8)) (by decide) fl_Mo_182 d_Mo_readOffsets_28 (mo_h hl) rfl ?_
        refine mj_istore (L' := [some (.ref 27), some (.int x1), some (.int x2), some (.int x3), some (.int x4), some (.int (g.1 8)), none]) d_Mo_readOffsets_31 (by decide) rfl rfl ?_
        refine mj_aload_n d_Mo_readOffsets_33 rfl ?_
        obtain ⟨z1, hz1, hk⟩ := og_b hk
        refine mj_cV (S := []) (S1 := [.int z1.1]) (tm_two hl hz1) d_Mo_readOffsets_34 cw_Mo_two ml_Mo_203 im_Mo_two se_Mo_two rfl (mo_h hl) (by decide) rfl (Nat.le_of_ble_eq_true rfl) rfl rfl ?_
        refine mj_istore (L' := [some (.ref 27), some (.int x1), some (.int x2), some (.int x3), some (.int x4), some (.int (g.1 8)), some (.int z1.1)]) d_Mo_readOffsets_37 (by decide) rfl rfl ?_
        refine mj_aload_n d_Mo_readOffsets_39 rfl ?_
        refine mj_get ok_Mo (k := 21) (v := .int (z1.2.1 9)) (by decide) fl_Mo_179 d_Mo_readOffsets_40 (mo_h hl) rfl ?_
        refine mj_if_le (tgt := 47) d_Mo_readOffsets_43 (by decide) (fun c_43 => ?_) (fun c_43 => ?_)
        · replace hk := og_pos c_43 hk
          refine mj_iload_n d_Mo_readOffsets_47 rfl ?_
          refine mj_if_eq (tgt := 64) d_Mo_readOffsets_48 (by decide) (fun c_48 => ?_) (fun c_48 => ?_)
          · replace hk := og_pos c_48 hk
            refine mj_fg 5 (L' := [some (.ref 27), some (.int x1), some (.int x2), some (.int x3), some (.int x4), none, some (.int z1.1)]) rfl ?_
            refine mj_fg 6 (L' := [some (.ref 27), some (.int x1), some (.int x2), some (.int x3), some (.int x4), none, none]) rfl ?_
            exact tj_readOffsets_64 hl hK hbk hk
          · replace hk := og_neg c_48 hk
            refine mj_iload d_Mo_readOffsets_51 rfl ?_
            refine mj_iload_n d_Mo_readOffsets_53 rfl ?_
            refine mj_icmp_eq (tgt := 64) d_Mo_readOffsets_54 (by decide) (fun c_54 => ?_) (fun c_54 => ?_)
            · replace hk := og_pos c_54 hk
              refine mj_fg 5 (L' := [some (.ref 27), some (.int x1), some (.int x2), some (.int x3), some (.int x4), none, some (.int z1.1)]) rfl ?_
              refine mj_fg 6 (L' := [some (.ref 27), some (.int x1), some (.int x2), some (.int x3), some (.int x4), none, none]) rfl ?_
              exact tj_readOffsets_64 hl hK hbk hk
            · replace hk := og_neg c_54 hk
              refine mj_aload_n d_Mo_readOffsets_57 rfl ?_
              refine mj_iload d_Mo_readOffsets_58 rfl ?_
              refine mj_iconst (v := 1) d_Mo_readOffsets_60 (by decide) ?_
              obtain ⟨z4, hz4, hk⟩ := og_b hk
              refine mj_cV (S := []) (S1 := []) (tm_wrong hl hz4) d_Mo_readOffsets_61 cw_Mo_wrong ml_Mo_185 im_Mo_wrong se_Mo_wrong rfl (mo_h hl) (by decide) rfl (Nat.le_of_ble_eq_true rfl) rfl rfl ?_
              refine mj_fg 5 (L' := [some (.ref 27), some (.int x1), some (.int x2), some (.int x3), some (.int x4), none, some (.int z1.1)]) rfl ?_
              refine mj_fg 6 (L' := [some (.ref 27), some (.int x1), some (.int x2), some (.int x3), some (.int x4), none, none]) rfl ?_
              exact tj_readOffsets_64 hl hK hbk hk
        · replace hk := og_neg c_43 hk
          cases hk
          exact mj_vret rfl d_Mo_readOffsets_46 ⟨rfl, rfl⟩
noncomputable def r_readOffsets (x1 : Int32) (g : mo_G) : Option mo_G := l_readOffsets_14 (fun  g5 => some g5) 2000 x1 (((g.1 8) + (2 * x1))) 1 0 g
set_option maxRecDepth 100000 in
set_option maxHeartbeats 4000000 in
theorem tm_readOffsets {h : mj_H} {r : mo_G} (hl : 39 < h.length) {x1 : Int32} {g : mo_G} (hk : r_readOffsets x1 g = some r) : mj_Met M_Mo_readOffsets (3, 66, none) 0 0 [.ref 27, .int x1] (mo_up h g) (mj_q none (mo_up h r)) := by
  unfold r_readOffsets at hk
  refine mj_enter (r := 5) rfl rfl (by decide) rfl ?_
  show mj_W M_Mo_readOffsets _ _ _ _ 0 [some (.ref 27), some (.int x1), none, none, none, none, none] [] (mo_up h g)
  refine mj_aload_n d_Mo_readOffsets_0 rfl ?_
  refine mj_get ok_Mo (k := 20) (v := .int (g.1 8)) (by decide) fl_Mo_182 d_Mo_readOffsets_1 (mo_h hl) rfl ?_
  refine mj_iconst (v := 2) d_Mo_readOffsets_4 (by decide) ?_
  refine mj_iload_n d_Mo_readOffsets_5 rfl ?_
  refine mj_imul d_Mo_readOffsets_6 ?_
  refine mj_iadd d_Mo_readOffsets_7 ?_
  refine mj_istore_n (L' := [some (.ref 27), some (.int x1), some (.int ((g.1 8) + (2 * x1))), none, none, none, none]) d_Mo_readOffsets_8 (by decide) rfl rfl ?_
  refine mj_iconst (v := 1) d_Mo_readOffsets_9 (by decide) ?_
  refine mj_istore_n (L' := [some (.ref 27), some (.int x1), some (.int ((g.1 8) + (2 * x1))), some (.int 1), none, none, none]) d_Mo_readOffsets_10 (by decide) rfl rfl ?_
  refine mj_iconst (v := 0) d_Mo_readOffsets_11 (by decide) ?_
  refine mj_istore (L' := [some (.ref 27), some (.int x1), some (.int ((g.1 8) + (2 * x1))), some (.int 1), some (.int 0), none, none]) d_Mo_readOffsets_12 (by decide) rfl rfl ?_
  refine tl_readOffsets_14 hl ?_ 2000 _ _ _ _ _ hk
  intro  g5 hk
  cases hk
  exact mj_vret rfl d_Mo_readOffsets_138 ⟨rfl, rfl⟩
noncomputable def j_wanted_70 (K : Int32 → mo_G → Option (Prod Int32 mo_G)) (bk : Int32 → Int32 → Int32 → Int32 → mo_G → Option (Prod Int32 mo_G)) (x1 : Int32) (x2 : Int32) (x4 : Int32) (s0 : Int32) (s1 : Int32) (s2 : Int32) (g : mo_G) : Option (Prod Int32 mo_G) := bk x1 x2 ((s2 + (s1 * s0))) (x4 + 1) g
set_option maxRecDepth 100000 in
set_option maxHeartbeats 4000000 in
theorem tj_wanted_70 {h : mj_H} {r : (Prod Int32 mo_G)} (hl : 39 < h.length) {K : Int32 → mo_G → Option (Prod Int32 mo_G)} {bk : Int32 → Int32 → Int32 → Int32 → mo_G → Option (Prod Int32 mo_G)} (hK : (∀ (x3 : Int32) (g : mo_G), K x3 g = some r → mj_W M_Mo_wanted (mj_q (some (.int r.1)) (mo_up h r.2)) (1, 24, none) 0 0 79 [some (.ref 27), none, none, some (.int x3), none] [] (mo_up h g))) (hbk : (∀ (x1 : Int32) (x2 : Int32) (x3 : Int32) (x4 : Int32) (g : mo_G), bk x1 x2 x3 x4 g = some r → mj_W M_Mo_wanted (mj_q (some (.int r.1)) (mo_up h r.2)) (1, 24, none) 0 0 5 [some (.ref 27), some (.int x1), some (.int x2), some (.int x3), some (.int x4)] [] (mo_up h g))) {x1 : Int32} {x2 : Int32} {x4 : Int32} {s0 : Int32} {s1 : Int32} {s2 : Int32} {g : mo_G} (hk : j_wanted_70 K bk x1 x2 x4 s0 s1 s2 g = some r) : mj_W M_Mo_wanted (mj_q (some (.int r.1)) (mo_up h r.2)) (1, 24, none) 0 0 70 [some (.ref 27), some (.int x1), some (.int x2), none, some (.int x4)] [.int s0, .int s1, .int s2] (mo_up h g) := by
  unfold j_wanted_70 at hk
  refine mj_imul d_Mo_wanted_70 ?_
  refine mj_iadd d_Mo_wanted_71 ?_
  refine mj_istore_n (L' := [some (.ref 27), some (.int x1), some (.int x2), some (.int (s2 + (s1 * s0))), some (.int x4)]) d_Mo_wanted_72 (by decide) rfl rfl ?_
  refine mj_iinc (x := x4) (v := x4 + 1) (L' := [some (.ref 27), some (.int x1), some (.int x2), some (.int (s2 + (s1 * s0))), some (.int (x4 + 1))]) d_Mo_wanted_73 rfl rfl (by decide) rfl rfl ?_
  refine mj_goto (tgt := 5) d_Mo_wanted_76 (by decide) ?_
  exact hbk _ _ _ _ _ hk
noncomputable def l_wanted_5 (K : Int32 → mo_G → Option (Prod Int32 mo_G)) : Nat → Int32 → Int32 → Int32 → Int32 → mo_G → Option (Prod Int32 mo_G)
  | 0, _, _, _, _, _ => none
  | n + 1, x1, x2, x3, x4, g => if (g.1 12) ≤ x4 then (K x3 g) else (og (vp_in (x4 : Int32) 3) ((r_across (g.1 10) (((g.2 7) (x4 : Int32).toNatClampNeg))).bind (fun z2 => og (vp_in (x4 : Int32) 3) ((r_down x1 x2 (((g.2 7) (x4 : Int32).toNatClampNeg))).bind (fun z4 => og (vp_in (x4 : Int32) 3) (if (((g.2 6) (x4 : Int32).toNatClampNeg)) = 1 then (if (g.1 13) = 2 then (j_wanted_70 K (fun x1 x2 x3 x4 g => l_wanted_5 K n x1 x2 x3 x4 g) x1 x2 x4 3 (z2 * z4) x3 g) else (j_wanted_70 K (fun x1 x2 x3 x4 g => l_wanted_5 K n x1 x2 x3 x4 g) x1 x2 x4 4 (z2 * z4) x3 g)) else (j_wanted_70 K (fun x1 x2 x3 x4 g => l_wanted_5 K n x1 x2 x3 x4 g) x1 x2 x4 2 (z2 * z4) x3 g)))))))
set_option maxRecDepth 100000 in
set_option maxHeartbeats 4000000 in
theorem tl_wanted_5 {h : mj_H} {r : (Prod Int32 mo_G)} (hl : 39 < h.length) {K : Int32 → mo_G → Option (Prod Int32 mo_G)} (hK : (∀ (x3 : Int32) (g : mo_G), K x3 g = some r → mj_W M_Mo_wanted (mj_q (some (.int r.1)) (mo_up h r.2)) (1, 24, none) 0 0 79 [some (.ref 27), none, none, some (.int x3), none] [] (mo_up h g))) : ∀ (n : Nat) (x1 : Int32) (x2 : Int32) (x3 : Int32) (x4 : Int32) (g : mo_G), l_wanted_5 K n x1 x2 x3 x4 g = some r → mj_W M_Mo_wanted (mj_q (some (.int r.1)) (mo_up h r.2)) (1, 24, none) 0 0 5 [some (.ref 27), some (.int x1), some (.int x2), some (.int x3), some (.int x4)] [] (mo_up h g) := by
  intro n
  induction n with
  | zero =>
    intro x1 x2 x3 x4 g hk
    cases hk
  | succ n hbk =>
    intro x1 x2 x3 x4 g hk
    rw [l_wanted_5] at hk
    refine mj_iload d_Mo_wanted_5 rfl ?_
    refine mj_aload_n d_Mo_wanted_7 rfl ?_
    refine mj_get ok_Mo (k := 24) (v := .int (g.1 12)) (by decide) fl_Mo_200 d_Mo_wanted_8 (mo_h hl) rfl ?_
    refine mj_icmp_ge (tgt := 79) d_Mo_wanted_11 (by decide) (fun c_11 => ?_) (fun c_11 => ?_)
    · replace hk := og_pos c_11 hk
      refine mj_fg 1 (L' := [some (.ref 27), none, some (.int x2), some (.int x3), some (.int x4)]) rfl ?_
      refine mj_fg 2 (L' := [some (.ref 27), none, none, some (.int x3), some (.int x4)]) rfl ?_
      refine mj_fg 4 (L' := [some (.ref 27), none, none, some (.int x3), none]) rfl ?_
      exact hK _ _ hk
    · replace hk := og_neg c_11 hk
      refine mj_iload_n d_Mo_wanted_14 rfl ?_
      refine mj_aload_n d_Mo_wanted_15 rfl ?_
      refine mj_get ok_Mo (k := 22) (v := .int (g.1 10)) (by decide) fl_Mo_191 d_Mo_wanted_16 (mo_h hl) rfl ?_
      refine mj_aload_n d_Mo_wanted_19 rfl ?_
      refine mj_get ok_Mo (k := 13) (v := .ref 35) (by decide) fl_Mo_44 d_Mo_wanted_20 (mo_h hl) rfl ?_
      refine mj_iload d_Mo_wanted_23 rfl ?_
      have q1 := og_1 hk
      replace hk := og_2 hk
      refine mj_iald (f := (g.2 7)) d_Mo_wanted_25 (mo_a7 hl) q1 ?_
      obtain ⟨z2, hz2, hk⟩ := og_b hk
      refine mj_cS (S := [.int x3]) (S1 := [.int z2, .int x3]) (tm_across hz2) d_Mo_wanted_26 cw_Mo_across ml_Mo_131 st_Mo_across (by decide) rfl (Nat.le_of_ble_eq_true rfl) rfl rfl ?_
      refine mj_iload_n d_Mo_wanted_29 rfl ?_
      refine mj_iload_n d_Mo_wanted_30 rfl ?_
      refine mj_aload_n d_Mo_wanted_31 rfl ?_
      refine mj_get ok_Mo (k := 13) (v := .ref 35) (by decide) fl_Mo_44 d_Mo_wanted_32 (mo_h hl) rfl ?_
      refine mj_iload d_Mo_wanted_35 rfl ?_
      have q3 := og_1 hk
      replace hk := og_2 hk
      refine mj_iald (f := (g.2 7)) d_Mo_wanted_37 (mo_a7 hl) q3 ?_
      obtain ⟨z4, hz4, hk⟩ := og_b hk
      refine mj_cS (S := [.int z2, .int x3]) (S1 := [.int z4, .int z2, .int x3]) (tm_down hz4) d_Mo_wanted_38 cw_Mo_down ml_Mo_135 st_Mo_down (by decide) rfl (Nat.le_of_ble_eq_true rfl) rfl rfl ?_
      refine mj_imul d_Mo_wanted_41 ?_
      refine mj_aload_n d_Mo_wanted_42 rfl ?_
      refine mj_get ok_Mo (k := 12) (v := .ref 34) (by decide) fl_Mo_41 d_Mo_wanted_43 (mo_h hl) rfl ?_
      refine mj_iload d_Mo_wanted_46 rfl ?_
      have q5 := og_1 hk
      replace hk := og_2 hk
      refine mj_iald (f := (g.2 6)) d_Mo_wanted_48 (mo_a6 hl) q5 ?_
      refine mj_iconst (v := 1) d_Mo_wanted_49 (by decide) ?_
      refine mj_icmp_eq (tgt := 57) d_Mo_wanted_50 (by decide) (fun c_50 => ?_) (fun c_50 => ?_)
      · replace hk := og_pos c_50 hk
        refine mj_aload_n d_Mo_wanted_57 rfl ?_
        refine mj_get ok_Mo (k := 25) (v := .int (g.1 13)) (by decide) fl_Mo_197 d_Mo_wanted_58 (mo_h hl) rfl ?_
        refine mj_iconst (v := 2) d_Mo_wanted_61 (by decide) ?_
        refine mj_icmp_ne (tgt := 69) d_Mo_wanted_62 (by decide) (fun c_62 => ?_) (fun c_62 => ?_)
        · replace hk := og_neg c_62 hk
          refine mj_iconst (v := 4) d_Mo_wanted_69 (by decide) ?_
          refine mj_fg 3 (L' := [some (.ref 27), some (.int x1), some (.int x2), none, some (.int x4)]) rfl ?_
          exact tj_wanted_70 hl hK hbk hk
        · replace hk := og_pos c_62 hk
          refine mj_iconst (v := 3) d_Mo_wanted_65 (by decide) ?_
          refine mj_goto (tgt := 70) d_Mo_wanted_66 (by decide) ?_
          refine mj_fg 3 (L' := [some (.ref 27), some (.int x1), some (.int x2), none, some (.int x4)]) rfl ?_
          exact tj_wanted_70 hl hK hbk hk
      · replace hk := og_neg c_50 hk
        refine mj_iconst (v := 2) d_Mo_wanted_53 (by decide) ?_
        refine mj_goto (tgt := 70) d_Mo_wanted_54 (by decide) ?_
        refine mj_fg 3 (L' := [some (.ref 27), some (.int x1), some (.int x2), none, some (.int x4)]) rfl ?_
        exact tj_wanted_70 hl hK hbk hk
noncomputable def r_wanted (x1 : Int32) (x2 : Int32) (g : mo_G) : Option (Prod Int32 mo_G) := l_wanted_5 (fun y7 g6 => some (y7, g6)) 2000 x1 x2 0 0 g
set_option maxRecDepth 100000 in
set_option maxHeartbeats 4000000 in
theorem tm_wanted {h : mj_H} {r : (Prod Int32 mo_G)} (hl : 39 < h.length) {x1 : Int32} {x2 : Int32} {g : mo_G} (hk : r_wanted x1 x2 g = some r) : mj_Met M_Mo_wanted (1, 24, none) 0 0 [.ref 27, .int x1, .int x2] (mo_up h g) (mj_q (some (.int r.1)) (mo_up h r.2)) := by
  unfold r_wanted at hk
  refine mj_enter (r := 2) rfl rfl (by decide) rfl ?_
  show mj_W M_Mo_wanted _ _ _ _ 0 [some (.ref 27), some (.int x1), some (.int x2), none, none] [] (mo_up h g)
  refine mj_iconst (v := 0) d_Mo_wanted_0 (by decide) ?_
  refine mj_istore_n (L' := [some (.ref 27), some (.int x1), some (.int x2), some (.int 0), none]) d_Mo_wanted_1 (by decide) rfl rfl ?_
  refine mj_iconst (v := 0) d_Mo_wanted_2 (by decide) ?_
  refine mj_istore (L' := [some (.ref 27), some (.int x1), some (.int x2), some (.int 0), some (.int 0)]) d_Mo_wanted_3 (by decide) rfl rfl ?_
  refine tl_wanted_5 hl ?_ 2000 _ _ _ _ _ hk
  intro y7 g6 hk
  refine mj_iload_n d_Mo_wanted_79 rfl ?_
  cases hk
  exact mj_iret rfl d_Mo_wanted_80 ⟨rfl, rfl⟩
noncomputable def l_take_4 (K : Int32 → Int32 → mo_G → Option (Prod Int32 mo_G)) : Nat → Int32 → Int32 → Int32 → mo_G → Option (Prod Int32 mo_G)
  | 0, _, _, _, _ => none
  | n + 1, x1, x2, x3, g => if x1 ≤ x3 then (K x1 x2 g) else (og (vp_in (((g.1 14) + x3) : Int32) 800) ((fun x1 x2 x3 g => l_take_4 K n x1 x2 x3 g) x1 ((x2 ||| (((((g.2 9) (((g.1 14) + x3) : Int32).toNatClampNeg)) <<< ((8 * x3) &&& 31))))) (x3 + 1) g))
set_option maxRecDepth 100000 in
set_option maxHeartbeats 4000000 in
theorem tl_take_4 {h : mj_H} {r : (Prod Int32 mo_G)} (hl : 39 < h.length) {K : Int32 → Int32 → mo_G → Option (Prod Int32 mo_G)} (hK : (∀ (x1 : Int32) (x2 : Int32) (g : mo_G), K x1 x2 g = some r → mj_W M_Mo_take (mj_q (some (.int r.1)) (mo_up h r.2)) (0, 0, none) 0 0 34 [some (.ref 27), some (.int x1), some (.int x2), none] [] (mo_up h g))) : ∀ (n : Nat) (x1 : Int32) (x2 : Int32) (x3 : Int32) (g : mo_G), l_take_4 K n x1 x2 x3 g = some r → mj_W M_Mo_take (mj_q (some (.int r.1)) (mo_up h r.2)) (0, 0, none) 0 0 4 [some (.ref 27), some (.int x1), some (.int x2), some (.int x3)] [] (mo_up h g) := by
  intro n
  induction n with
  | zero =>
    intro x1 x2 x3 g hk
    cases hk
  | succ n hbk =>
    intro x1 x2 x3 g hk
    rw [l_take_4] at hk
    refine mj_iload_n d_Mo_take_4 rfl ?_
    refine mj_iload_n d_Mo_take_5 rfl ?_
    refine mj_icmp_ge (tgt := 34) d_Mo_take_6 (by decide) (fun c_6 => ?_) (fun c_6 => ?_)
    · replace hk := og_pos c_6 hk
      refine mj_fg 3 (L' := [some (.ref 27), some (.int x1), some (.int x2), none]) rfl ?_
      exact hK _ _ _ hk
    · replace hk := og_neg c_6 hk
      refine mj_iload_n d_Mo_take_9 rfl ?_
      refine mj_aload_n d_Mo_take_10 rfl ?_
      refine mj_get ok_Mo (k := 15) (v := .ref 37) (by decide) fl_Mo_50 d_Mo_take_11 (mo_h hl) rfl ?_
      refine mj_aload_n d_Mo_take_14 rfl ?_
      refine mj_get ok_Mo (k := 26) (v := .int (g.1 14)) (by decide) fl_Mo_207 d_Mo_take_15 (mo_h hl) rfl ?_
      refine mj_iload_n d_Mo_take_18 rfl ?_
      refine mj_iadd d_Mo_take_19 ?_
      have q1 := og_1 hk
      replace hk := og_2 hk
      refine mj_iald (f := (g.2 9)) d_Mo_take_20 (mo_a9 hl) q1 ?_
      refine mj_bipush (v := 8) d_Mo_take_21 (by decide) ?_
      refine mj_iload_n d_Mo_take_23 rfl ?_
      refine mj_imul d_Mo_take_24 ?_
      refine mj_ishl d_Mo_take_25 ?_
      refine mj_ior d_Mo_take_26 ?_
      refine mj_istore_n (L' := [some (.ref 27), some (.int x1), some (.int (x2 ||| (((((g.2 9) (((g.1 14) + x3) : Int32).toNatClampNeg)) <<< ((8 * x3) &&& 31))))), some (.int x3)]) d_Mo_take_27 (by decide) rfl rfl ?_
      refine mj_iinc (x := x3) (v := x3 + 1) (L' := [some (.ref 27), some (.int x1), some (.int (x2 ||| (((((g.2 9) (((g.1 14) + x3) : Int32).toNatClampNeg)) <<< ((8 * x3) &&& 31))))), some (.int (x3 + 1))]) d_Mo_take_28 rfl rfl (by decide) rfl rfl ?_
      refine mj_goto (tgt := 4) d_Mo_take_31 (by decide) ?_
      exact hbk _ _ _ _ hk
noncomputable def r_take (x1 : Int32) (g : mo_G) : Option (Prod Int32 mo_G) := l_take_4 (fun y3 y4 g2 => some (y4, (upd g2.1 14 (((g2.1 14) + y3)), g2.2))) 2000 x1 0 0 g
set_option maxRecDepth 100000 in
set_option maxHeartbeats 4000000 in
theorem tm_take {h : mj_H} {r : (Prod Int32 mo_G)} (hl : 39 < h.length) {x1 : Int32} {g : mo_G} (hk : r_take x1 g = some r) : mj_Met M_Mo_take (0, 0, none) 0 0 [.ref 27, .int x1] (mo_up h g) (mj_q (some (.int r.1)) (mo_up h r.2)) := by
  unfold r_take at hk
  refine mj_enter (r := 2) rfl rfl (by decide) rfl ?_
  show mj_W M_Mo_take _ _ _ _ 0 [some (.ref 27), some (.int x1), none, none] [] (mo_up h g)
  refine mj_iconst (v := 0) d_Mo_take_0 (by decide) ?_
  refine mj_istore_n (L' := [some (.ref 27), some (.int x1), some (.int 0), none]) d_Mo_take_1 (by decide) rfl rfl ?_
  refine mj_iconst (v := 0) d_Mo_take_2 (by decide) ?_
  refine mj_istore_n (L' := [some (.ref 27), some (.int x1), some (.int 0), some (.int 0)]) d_Mo_take_3 (by decide) rfl rfl ?_
  refine tl_take_4 hl ?_ 2000 _ _ _ _ hk
  intro y3 y4 g2 hk
  refine mj_aload_n d_Mo_take_34 rfl ?_
  refine mj_dup d_Mo_take_35 rfl ?_
  refine mj_get ok_Mo (k := 26) (v := .int (g2.1 14)) (by decide) fl_Mo_207 d_Mo_take_36 (mo_h hl) rfl ?_
  refine mj_iload_n d_Mo_take_39 rfl ?_
  refine mj_iadd d_Mo_take_40 ?_
  refine mj_put ok_Mo (k := 26) (by decide) fl_Mo_207 rfl (fun _ => rfl) (fun _ => rfl) (Nat.le_of_ble_eq_true rfl) d_Mo_take_41 (mo_h hl) ?_
  refine mj_hp (h1 := mo_up h (upd g2.1 14 (((g2.1 14) + y3)), g2.2)) (mo_p14 (g := g2) hl (((g2.1 14) + y3))) ?_
  refine mj_iload_n d_Mo_take_44 rfl ?_
  cases hk
  exact mj_iret rfl d_Mo_take_45 ⟨rfl, rfl⟩
noncomputable def j_scatter_165 (K : Int32 → Int32 → Int32 → Int32 → Int32 → mo_G → Option mo_G) (bk : Int32 → Int32 → Int32 → Int32 → Int32 → Int32 → Int32 → Int32 → mo_G → Option mo_G) (x1 : Int32) (x2 : Int32) (x3 : Int32) (x4 : Int32) (x5 : Int32) (x6 : Int32) (x7 : Int32) (x8 : Int32) (s0 : Int32) (s1 : Int32) (g : mo_G) : Option mo_G := og (vp_in (s1 : Int32) 192) (og (vp_in (x5 : Int32) 3) (bk x1 x2 x3 x4 x5 x6 x7 ((x8 + (((g.2 7) (x5 : Int32).toNatClampNeg)))) (g.1, mo_uA g.2 8 (upd (g.2 8) (s1 : Int32).toNatClampNeg s0))))
set_option maxRecDepth 100000 in
set_option maxHeartbeats 4000000 in
theorem tj_scatter_165 {h : mj_H} {r : mo_G} (hl : 39 < h.length) {K : Int32 → Int32 → Int32 → Int32 → Int32 → mo_G → Option mo_G} {bk : Int32 → Int32 → Int32 → Int32 → Int32 → Int32 → Int32 → Int32 → mo_G → Option mo_G} (hK : (∀ (x1 : Int32) (x2 : Int32) (x3 : Int32) (x4 : Int32) (x5 : Int32) (g : mo_G), K x1 x2 x3 x4 x5 g = some r → mj_W M_Mo_scatter (mj_q none (mo_up h r)) (1, 23, none) 0 0 181 [some (.ref 27), some (.int x1), some (.int x2), some (.int x3), some (.int x4), some (.int x5), none, none, none, none] [] (mo_up h g))) (hbk : (∀ (x1 : Int32) (x2 : Int32) (x3 : Int32) (x4 : Int32) (x5 : Int32) (x6 : Int32) (x7 : Int32) (x8 : Int32) (g : mo_G), bk x1 x2 x3 x4 x5 x6 x7 x8 g = some r → mj_W M_Mo_scatter (mj_q none (mo_up h r)) (1, 23, none) 0 0 80 [some (.ref 27), some (.int x1), some (.int x2), some (.int x3), some (.int x4), some (.int x5), some (.int x6), some (.int x7), some (.int x8), none] [] (mo_up h g))) {x1 : Int32} {x2 : Int32} {x3 : Int32} {x4 : Int32} {x5 : Int32} {x6 : Int32} {x7 : Int32} {x8 : Int32} {s0 : Int32} {s1 : Int32} {g : mo_G} (hk : j_scatter_165 K bk x1 x2 x3 x4 x5 x6 x7 x8 s0 s1 g = some r) : mj_W M_Mo_scatter (mj_q none (mo_up h r)) (1, 23, none) 0 0 165 [some (.ref 27), some (.int x1), some (.int x2), some (.int x3), some (.int x4), some (.int x5), some (.int x6), some (.int x7), some (.int x8), none] [.int s0, .int s1, .ref 36] (mo_up h g) := by
  unfold j_scatter_165 at hk
  have q5 := og_1 hk
  replace hk := og_2 hk
  refine mj_iast (f := (g.2 8)) d_Mo_scatter_165 (mo_a8 hl) q5 ?_
  refine mj_hp (h1 := mo_up h (g.1, mo_uA g.2 8 (upd (g.2 8) (s1 : Int32).toNatClampNeg s0))) (mo_b8 (g := g) hl (upd (g.2 8) (s1 : Int32).toNatClampNeg s0)) ?_
  refine mj_iload d_Mo_scatter_166 rfl ?_
  refine mj_aload_n d_Mo_scatter_168 rfl ?_
  refine mj_get ok_Mo (k := 13) (v := .ref 35) (by decide) fl_Mo_44 d_Mo_scatter_169 (mo_h hl) rfl ?_
  refine mj_iload d_Mo_scatter_172 rfl ?_
  have q6 := og_1 hk
  replace hk := og_2 hk
  refine mj_iald (f := (g.2 7)) d_Mo_scatter_174 (mo_a7 hl) q6 ?_
  refine mj_iadd d_Mo_scatter_175 ?_
  refine mj_istore (L' := [some (.ref 27), some (.int x1), some (.int x2), some (.int x3), some (.int x4), some (.int x5), some (.int x6), some (.int x7), some (.int (x8 + (((g.2 7) (x5 : Int32).toNatClampNeg)))), none]) d_Mo_scatter_176 (by decide) rfl rfl ?_
  refine mj_goto (tgt := 80) d_Mo_scatter_178 (by decide) ?_
  exact hbk _ _ _ _ _ _ _ _ _ hk
noncomputable def j_scatter_127 (K : Int32 → Int32 → Int32 → Int32 → Int32 → mo_G → Option mo_G) (bk : Int32 → Int32 → Int32 → Int32 → Int32 → Int32 → Int32 → Int32 → mo_G → Option mo_G) (x1 : Int32) (x2 : Int32) (x3 : Int32) (x4 : Int32) (x5 : Int32) (x7 : Int32) (x8 : Int32) (x9 : Int32) (g : mo_G) : Option mo_G := if x7 = 3 then (j_scatter_165 K bk x1 x2 x3 x4 x5 x9 x7 x8 ((x9 <<< (8 &&& 31))) (((((64 * x5) + (8 * x4))) + x8)) g) else (j_scatter_165 K bk x1 x2 x3 x4 x5 x9 x7 x8 x9 (((((64 * x5) + (8 * x4))) + x8)) g)
set_option maxRecDepth 100000 in
set_option maxHeartbeats 4000000 in
theorem tj_scatter_127 {h : mj_H} {r : mo_G} (hl : 39 < h.length) {K : Int32 → Int32 → Int32 → Int32 → Int32 → mo_G → Option mo_G} {bk : Int32 → Int32 → Int32 → Int32 → Int32 → Int32 → Int32 → Int32 → mo_G → Option mo_G} (hK : (∀ (x1 : Int32) (x2 : Int32) (x3 : Int32) (x4 : Int32) (x5 : Int32) (g : mo_G), K x1 x2 x3 x4 x5 g = some r → mj_W M_Mo_scatter (mj_q none (mo_up h r)) (1, 23, none) 0 0 181 [some (.ref 27), some (.int x1), some (.int x2), some (.int x3), some (.int x4), some (.int x5), none, none, none, none] [] (mo_up h g))) (hbk : (∀ (x1 : Int32) (x2 : Int32) (x3 : Int32) (x4 : Int32) (x5 : Int32) (x6 : Int32) (x7 : Int32) (x8 : Int32) (g : mo_G), bk x1 x2 x3 x4 x5 x6 x7 x8 g = some r → mj_W M_Mo_scatter (mj_q none (mo_up h r)) (1, 23, none) 0 0 80 [some (.ref 27), some (.int x1), some (.int x2), some (.int x3), some (.int x4), some (.int x5), some (.int x6), some (.int x7), some (.int x8), none] [] (mo_up h g))) {x1 : Int32} {x2 : Int32} {x3 : Int32} {x4 : Int32} {x5 : Int32} {x7 : Int32} {x8 : Int32} {x9 : Int32} {g : mo_G} (hk : j_scatter_127 K bk x1 x2 x3 x4 x5 x7 x8 x9 g = some r) : mj_W M_Mo_scatter (mj_q none (mo_up h r)) (1, 23, none) 0 0 127 [some (.ref 27), some (.int x1), some (.int x2), some (.int x3), some (.int x4), some (.int x5), none, some (.int x7), some (.int x8), some (.int x9)] [] (mo_up h g) := by
  unfold j_scatter_127 at hk
  refine mj_iload d_Mo_scatter_127 rfl ?_
  refine mj_istore (L' := [some (.ref 27), some (.int x1), some (.int x2), some (.int x3), some (.int x4), some (.int x5), some (.int x9), some (.int x7), some (.int x8), some (.int x9)]) d_Mo_scatter_129 (by decide) rfl rfl ?_
  refine mj_aload_n d_Mo_scatter_131 rfl ?_
  refine mj_get ok_Mo (k := 14) (v := .ref 36) (by decide) fl_Mo_47 d_Mo_scatter_132 (mo_h hl) rfl ?_
  refine mj_bipush (v := 64) d_Mo_scatter_135 (by decide) ?_
  refine mj_iload d_Mo_scatter_137 rfl ?_
  refine mj_imul d_Mo_scatter_139 ?_
  refine mj_bipush (v := 8) d_Mo_scatter_140 (by decide) ?_
  refine mj_iload d_Mo_scatter_142 rfl ?_
  refine mj_imul d_Mo_scatter_144 ?_
  refine mj_iadd d_Mo_scatter_145 ?_
  refine mj_iload d_Mo_scatter_146 rfl ?_
  refine mj_iadd d_Mo_scatter_148 ?_
  refine mj_iload d_Mo_scatter_149 rfl ?_
  refine mj_iconst (v := 3) d_Mo_scatter_151 (by decide) ?_
  refine mj_icmp_ne (tgt := 163) d_Mo_scatter_152 (by decide) (fun c_152 => ?_) (fun c_152 => ?_)
  · replace hk := og_neg c_152 hk
    refine mj_iload d_Mo_scatter_163 rfl ?_
    refine mj_fg 9 (L' := [some (.ref 27), some (.int x1), some (.int x2), some (.int x3), some (.int x4), some (.int x5), some (.int x9), some (.int x7), some (.int x8), none]) rfl ?_
    exact tj_scatter_165 hl hK hbk hk
  · replace hk := og_pos c_152 hk
    refine mj_iload d_Mo_scatter_155 rfl ?_
    refine mj_bipush (v := 8) d_Mo_scatter_157 (by decide) ?_
    refine mj_ishl d_Mo_scatter_159 ?_
    refine mj_goto (tgt := 165) d_Mo_scatter_160 (by decide) ?_
    refine mj_fg 9 (L' := [some (.ref 27), some (.int x1), some (.int x2), some (.int x3), some (.int x4), some (.int x5), some (.int x9), some (.int x7), some (.int x8), none]) rfl ?_
    exact tj_scatter_165 hl hK hbk hk
noncomputable def j_scatter_124 (K : Int32 → Int32 → Int32 → Int32 → Int32 → mo_G → Option mo_G) (bk : Int32 → Int32 → Int32 → Int32 → Int32 → Int32 → Int32 → Int32 → mo_G → Option mo_G) (x1 : Int32) (x2 : Int32) (x3 : Int32) (x4 : Int32) (x5 : Int32) (x7 : Int32) (x8 : Int32) (s0 : Int32) (s1 : Int32) (g : mo_G) : Option mo_G := j_scatter_127 K bk x1 x2 x3 x4 x5 x7 x8 (s1 &&& s0) g
set_option maxRecDepth 100000 in
set_option maxHeartbeats 4000000 in
theorem tj_scatter_124 {h : mj_H} {r : mo_G} (hl : 39 < h.length) {K : Int32 → Int32 → Int32 → Int32 → Int32 → mo_G → Option mo_G} {bk : Int32 → Int32 → Int32 → Int32 → Int32 → Int32 → Int32 → Int32 → mo_G → Option mo_G} (hK : (∀ (x1 : Int32) (x2 : Int32) (x3 : Int32) (x4 : Int32) (x5 : Int32) (g : mo_G), K x1 x2 x3 x4 x5 g = some r → mj_W M_Mo_scatter (mj_q none (mo_up h r)) (1, 23, none) 0 0 181 [some (.ref 27), some (.int x1), some (.int x2), some (.int x3), some (.int x4), some (.int x5), none, none, none, none] [] (mo_up h g))) (hbk : (∀ (x1 : Int32) (x2 : Int32) (x3 : Int32) (x4 : Int32) (x5 : Int32) (x6 : Int32) (x7 : Int32) (x8 : Int32) (g : mo_G), bk x1 x2 x3 x4 x5 x6 x7 x8 g = some r → mj_W M_Mo_scatter (mj_q none (mo_up h r)) (1, 23, none) 0 0 80 [some (.ref 27), some (.int x1), some (.int x2), some (.int x3), some (.int x4), some (.int x5), some (.int x6), some (.int x7), some (.int x8), none] [] (mo_up h g))) {x1 : Int32} {x2 : Int32} {x3 : Int32} {x4 : Int32} {x5 : Int32} {x7 : Int32} {x8 : Int32} {s0 : Int32} {s1 : Int32} {g : mo_G} (hk : j_scatter_124 K bk x1 x2 x3 x4 x5 x7 x8 s0 s1 g = some r) : mj_W M_Mo_scatter (mj_q none (mo_up h r)) (1, 23, none) 0 0 124 [some (.ref 27), some (.int x1), some (.int x2), some (.int x3), some (.int x4), some (.int x5), none, some (.int x7), some (.int x8), none] [.int s0, .int s1] (mo_up h g) := by
  unfold j_scatter_124 at hk
  refine mj_iand d_Mo_scatter_124 ?_
  refine mj_istore (L' := [some (.ref 27), some (.int x1), some (.int x2), some (.int x3), some (.int x4), some (.int x5), none, some (.int x7), some (.int x8), some (.int (s1 &&& s0))]) d_Mo_scatter_125 (by decide) rfl rfl ?_
  exact tj_scatter_127 hl hK hbk hk
noncomputable def l_scatter_80 (K : Int32 → Int32 → Int32 → Int32 → Int32 → mo_G → Option mo_G) : Nat → Int32 → Int32 → Int32 → Int32 → Int32 → Int32 → Int32 → Int32 → mo_G → Option mo_G
  | 0, _, _, _, _, _, _, _, _, _ => none
  | n + 1, x1, x2, x3, x4, x5, x6, x7, x8, g => if (g.1 10) ≤ x8 then (K x1 x2 x3 x4 x5 g) else ((r_take x7 g).bind (fun z4 => if x3 = 0 then (j_scatter_127 K (fun x1 x2 x3 x4 x5 x6 x7 x8 g => l_scatter_80 K n x1 x2 x3 x4 x5 x6 x7 x8 g) x1 x2 x3 x4 x5 x7 x8 z4.1 z4.2) else (if x8 ≤ 0 then (j_scatter_127 K (fun x1 x2 x3 x4 x5 x6 x7 x8 g => l_scatter_80 K n x1 x2 x3 x4 x5 x6 x7 x8 g) x1 x2 x3 x4 x5 x7 x8 z4.1 z4.2) else (if x7 = 2 then (j_scatter_124 K (fun x1 x2 x3 x4 x5 x6 x7 x8 g => l_scatter_80 K n x1 x2 x3 x4 x5 x6 x7 x8 g) x1 x2 x3 x4 x5 x7 x8 65535 (z4.1 + x6) z4.2) else (j_scatter_124 K (fun x1 x2 x3 x4 x5 x6 x7 x8 g => l_scatter_80 K n x1 x2 x3 x4 x5 x6 x7 x8 g) x1 x2 x3 x4 x5 x7 x8 16777215 (z4.1 + x6) z4.2)))))
set_option maxRecDepth 100000 in
set_option maxHeartbeats 4000000 in
theorem tl_scatter_80 {h : mj_H} {r : mo_G} (hl : 39 < h.length) {K : Int32 → Int32 → Int32 → Int32 → Int32 → mo_G → Option mo_G} (hK : (∀ (x1 : Int32) (x2 : Int32) (x3 : Int32) (x4 : Int32) (x5 : Int32) (g : mo_G), K x1 x2 x3 x4 x5 g = some r → mj_W M_Mo_scatter (mj_q none (mo_up h r)) (1, 23, none) 0 0 181 [some (.ref 27), some (.int x1), some (.int x2), some (.int x3), some (.int x4), some (.int x5), none, none, none, none] [] (mo_up h g))) : ∀ (n : Nat) (x1 : Int32) (x2 : Int32) (x3 : Int32) (x4 : Int32) (x5 : Int32) (x6 : Int32) (x7 : Int32) (x8 : Int32) (g : mo_G), l_scatter_80 K n x1 x2 x3 x4 x5 x6 x7 x8 g = some r → mj_W M_Mo_scatter (mj_q none (mo_up h r)) (1, 23, none) 0 0 80 [some (.ref 27), some (.int x1), some (.int x2), some (.int x3), some (.int x4), some (.int x5), some (.int x6), some (.int x7), some (.int x8), none] [] (mo_up h g) := by
  intro n
  induction n with
  | zero =>
    intro x1 x2 x3 x4 x5 x6 x7 x8 g hk
    cases hk
  | succ n hbk =>
    intro x1 x2 x3 x4 x5 x6 x7 x8 g hk
    rw [l_scatter_80] at hk
    refine mj_iload d_Mo_scatter_80 rfl ?_
    refine mj_aload_n d_Mo_scatter_82 rfl ?_
    refine mj_get ok_Mo (k := 22) (v := .int (g.1 10)) (by decide) fl_Mo_191 d_Mo_scatter_83 (mo_h hl) rfl ?_
    refine mj_icmp_ge (tgt := 181) d_Mo_scatter_86 (by decide) (fun c_86 => ?_) (fun c_86 => ?_)
    · replace hk := og_pos c_86 hk
      refine mj_fg 6 (L' := [some (.ref 27), some (.int x1), some (.int x2), some (.int x3), some (.int x4), some (.int x5), none, some (.int x7), some (.int x8), none]) rfl ?_
      refine mj_fg 7 (L' := [some (.ref 27), some (.int x1), some (.int x2), some (.int x3), some (.int x4), some (.int x5), none, none, some (.int x8), none]) rfl ?_
      refine mj_fg 8 (L' := [some (.ref 27), some (.int x1), some (.int x2), some (.int x3), some (.int x4), some (.int x5), none, none, none, none]) rfl ?_
      exact hK _ _ _ _ _ _ hk
    · replace hk := og_neg c_86 hk
      refine mj_aload_n d_Mo_scatter_89 rfl ?_
      refine mj_iload d_Mo_scatter_90 rfl ?_
      obtain ⟨z4, hz4, hk⟩ := og_b hk
      refine mj_cV (S := []) (S1 := [.int z4.1]) (tm_take hl hz4) d_Mo_scatter_92 cw_Mo_take ml_Mo_210 im_Mo_take se_Mo_take rfl (mo_h hl) (by decide) rfl (Nat.le_of_ble_eq_true rfl) rfl rfl ?_
      refine mj_istore (L' := [some (.ref 27), some (.int x1), some (.int x2), some (.int x3), some (.int x4), some (.int x5), some (.int x6), some (.int x7), some (.int x8), some (.int z4.1)]) d_Mo_scatter_95 (by decide) rfl rfl ?_
      refine mj_iload_n d_Mo_scatter_97 rfl ?_
      refine mj_if_eq (tgt := 127) d_Mo_scatter_98 (by decide) (fun c_98 => ?_) (fun c_98 => ?_)
      · replace hk := og_pos c_98 hk
        refine mj_fg 6 (L' := [some (.ref 27), some (.int x1), some (.int x2), some (.int x3), some (.int x4), some (.int x5), none, some (.int x7), some (.int x8), some (.int z4.1)]) rfl ?_
        exact tj_scatter_127 hl hK hbk hk
      · replace hk := og_neg c_98 hk
        refine mj_iload d_Mo_scatter_101 rfl ?_
        refine mj_if_le (tgt := 127) d_Mo_scatter_103 (by decide) (fun c_103 => ?_) (fun c_103 => ?_)
        · replace hk := og_pos c_103 hk
          refine mj_fg 6 (L' := [some (.ref 27), some (.int x1), some (.int x2), some (.int x3), some (.int x4), some (.int x5), none, some (.int x7), some (.int x8), some (.int z4.1)]) rfl ?_
          exact tj_scatter_127 hl hK hbk hk
        · replace hk := og_neg c_103 hk
          refine mj_iload d_Mo_scatter_106 rfl ?_
          refine mj_iload d_Mo_scatter_108 rfl ?_
          refine mj_iadd d_Mo_scatter_110 ?_
          refine mj_iload d_Mo_scatter_111 rfl ?_
          refine mj_iconst (v := 2) d_Mo_scatter_113 (by decide) ?_
          refine mj_icmp_ne (tgt := 122) d_Mo_scatter_114 (by decide) (fun c_114 => ?_) (fun c_114 => ?_)
          · replace hk := og_neg c_114 hk
            refine mj_ldc d_Mo_scatter_122 k_Mo_213 ?_
            refine mj_fg 6 (L' := [some (.ref 27), some (.int x1), some (.int x2), some (.int x3), some (.int x4), some (.int x5), none, some (.int x7), some (.int x8), some (.int z4.1)]) rfl ?_
            refine mj_fg 9 (L' := [some (.ref 27), some (.int x1), some (.int x2), some (.int x3), some (.int x4), some (.int x5), none, some (.int x7), some (.int x8), none]) rfl ?_
            exact tj_scatter_124 hl hK hbk hk
          · replace hk := og_pos c_114 hk
            refine mj_ldc d_Mo_scatter_117 k_Mo_72 ?_
            refine mj_goto (tgt := 124) d_Mo_scatter_119 (by decide) ?_
            refine mj_fg 6 (L' := [some (.ref 27), some (.int x1), some (.int x2), some (.int x3), some (.int x4), some (.int x5), none, some (.int x7), some (.int x8), some (.int z4.1)]) rfl ?_
            refine mj_fg 9 (L' := [some (.ref 27), some (.int x1), some (.int x2), some (.int x3), some (.int x4), some (.int x5), none, some (.int x7), some (.int x8), none]) rfl ?_
            exact tj_scatter_124 hl hK hbk hk
noncomputable def j_scatter_181 (K : Int32 → Int32 → Int32 → Int32 → mo_G → Option mo_G) (bk : Int32 → Int32 → Int32 → Int32 → Int32 → mo_G → Option mo_G) (x1 : Int32) (x2 : Int32) (x3 : Int32) (x4 : Int32) (x5 : Int32) (g : mo_G) : Option mo_G := bk x1 x2 x3 x4 (x5 + 1) g
set_option maxRecDepth 100000 in
set_option maxHeartbeats 4000000 in
theorem tj_scatter_181 {h : mj_H} {r : mo_G} (hl : 39 < h.length) {K : Int32 → Int32 → Int32 → Int32 → mo_G → Option mo_G} {bk : Int32 → Int32 → Int32 → Int32 → Int32 → mo_G → Option mo_G} (hK : (∀ (x1 : Int32) (x2 : Int32) (x3 : Int32) (x4 : Int32) (g : mo_G), K x1 x2 x3 x4 g = some r → mj_W M_Mo_scatter (mj_q none (mo_up h r)) (1, 23, none) 0 0 187 [some (.ref 27), some (.int x1), some (.int x2), some (.int x3), some (.int x4), none, none, none, none, none] [] (mo_up h g))) (hbk : (∀ (x1 : Int32) (x2 : Int32) (x3 : Int32) (x4 : Int32) (x5 : Int32) (g : mo_G), bk x1 x2 x3 x4 x5 g = some r → mj_W M_Mo_scatter (mj_q none (mo_up h r)) (1, 23, none) 0 0 19 [some (.ref 27), some (.int x1), some (.int x2), some (.int x3), some (.int x4), some (.int x5), none, none, none, none] [] (mo_up h g))) {x1 : Int32} {x2 : Int32} {x3 : Int32} {x4 : Int32} {x5 : Int32} {g : mo_G} (hk : j_scatter_181 K bk x1 x2 x3 x4 x5 g = some r) : mj_W M_Mo_scatter (mj_q none (mo_up h r)) (1, 23, none) 0 0 181 [some (.ref 27), some (.int x1), some (.int x2), some (.int x3), some (.int x4), some (.int x5), none, none, none, none] [] (mo_up h g) := by
  unfold j_scatter_181 at hk
  refine mj_iinc (x := x5) (v := x5 + 1) (L' := [some (.ref 27), some (.int x1), some (.int x2), some (.int x3), some (.int x4), some (.int (x5 + 1)), none, none, none, none]) d_Mo_scatter_181 rfl rfl (by decide) rfl rfl ?_
  refine mj_goto (tgt := 19) d_Mo_scatter_184 (by decide) ?_
  exact hbk _ _ _ _ _ _ hk
noncomputable def j_scatter_75 (K : Int32 → Int32 → Int32 → Int32 → mo_G → Option mo_G) (bk : Int32 → Int32 → Int32 → Int32 → Int32 → mo_G → Option mo_G) (x1 : Int32) (x2 : Int32) (x3 : Int32) (x4 : Int32) (x5 : Int32) (x6 : Int32) (s0 : Int32) (g : mo_G) : Option mo_G := l_scatter_80 (fun y8 y9 y10 y11 y12 g7 => j_scatter_181 K bk y8 y9 y10 y11 y12 g7) 2000 x1 x2 x3 x4 x5 x6 s0 0 g
set_option maxRecDepth 100000 in
set_option maxHeartbeats 4000000 in
theorem tj_scatter_75 {h : mj_H} {r : mo_G} (hl : 39 < h.length) {K : Int32 → Int32 → Int32 → Int32 → mo_G → Option mo_G} {bk : Int32 → Int32 → Int32 → Int32 → Int32 → mo_G → Option mo_G} (hK : (∀ (x1 : Int32) (x2 : Int32) (x3 : Int32) (x4 : Int32) (g : mo_G), K x1 x2 x3 x4 g = some r → mj_W M_Mo_scatter (mj_q none (mo_up h r)) (1, 23, none) 0 0 187 [some (.ref 27), some (.int x1), some (.int x2), some (.int x3), some (.int x4), none, none, none, none, none] [] (mo_up h g))) (hbk : (∀ (x1 : Int32) (x2 : Int32) (x3 : Int32) (x4 : Int32) (x5 : Int32) (g : mo_G), bk x1 x2 x3 x4 x5 g = some r → mj_W M_Mo_scatter (mj_q none (mo_up h r)) (1, 23, none) 0 0 19 [some (.ref 27), some (.int x1), some (.int x2), some (.int x3), some (.int x4), some (.int x5), none, none, none, none] [] (mo_up h g))) {x1 : Int32} {x2 : Int32} {x3 : Int32} {x4 : Int32} {x5 : Int32} {x6 : Int32} {s0 : Int32} {g : mo_G} (hk : j_scatter_75 K bk x1 x2 x3 x4 x5 x6 s0 g = some r) : mj_W M_Mo_scatter (mj_q none (mo_up h r)) (1, 23, none) 0 0 75 [some (.ref 27), some (.int x1), some (.int x2), some (.int x3), some (.int x4), some (.int x5), some (.int x6), none, none, none] [.int s0] (mo_up h g) := by
  unfold j_scatter_75 at hk
  refine mj_istore (L' := [some (.ref 27), some (.int x1), some (.int x2), some (.int x3), some (.int x4), some (.int x5), some (.int x6), some (.int s0), none, none]) d_Mo_scatter_75 (by decide) rfl rfl ?_
  refine mj_iconst (v := 0) d_Mo_scatter_77 (by decide) ?_
  refine mj_istore (L' := [some (.ref 27), some (.int x1), some (.int x2), some (.int x3), some (.int x4), some (.int x5), some (.int x6), some (.int s0), some (.int 0), none]) d_Mo_scatter_78 (by decide) rfl rfl ?_
  refine tl_scatter_80 hl ?_ 2000 _ _ _ _ _ _ _ _ _ hk
  intro y8 y9 y10 y11 y12 g7 hk
  exact tj_scatter_181 hl hK hbk hk
noncomputable def l_scatter_19 (K : Int32 → Int32 → Int32 → Int32 → mo_G → Option mo_G) : Nat → Int32 → Int32 → Int32 → Int32 → Int32 → mo_G → Option mo_G
  | 0, _, _, _, _, _, _ => none
  | n + 1, x1, x2, x3, x4, x5, g => if (g.1 12) ≤ x5 then (K x1 x2 x3 x4 g) else (og (vp_in (x5 : Int32) 3) (og (¬ (((g.2 7) (x5 : Int32).toNatClampNeg)) = 0) (if ((x4 - x4 / (((g.2 7) (x5 : Int32).toNatClampNeg)) * (((g.2 7) (x5 : Int32).toNatClampNeg)))) = 0 then (og (vp_in (x5 : Int32) 3) (if (((g.2 6) (x5 : Int32).toNatClampNeg)) = 1 then (if (g.1 13) = 2 then (j_scatter_75 K (fun x1 x2 x3 x4 x5 g => l_scatter_19 K n x1 x2 x3 x4 x5 g) x1 x2 x3 x4 x5 0 3 g) else (j_scatter_75 K (fun x1 x2 x3 x4 x5 g => l_scatter_19 K n x1 x2 x3 x4 x5 g) x1 x2 x3 x4 x5 0 4 g)) else (j_scatter_75 K (fun x1 x2 x3 x4 x5 g => l_scatter_19 K n x1 x2 x3 x4 x5 g) x1 x2 x3 x4 x5 0 2 g))) else (j_scatter_181 K (fun x1 x2 x3 x4 x5 g => l_scatter_19 K n x1 x2 x3 x4 x5 g) x1 x2 x3 x4 x5 g))))
set_option maxRecDepth 100000 in
set_option maxHeartbeats 4000000 in
theorem tl_scatter_19 {h : mj_H} {r : mo_G} (hl : 39 < h.length) {K : Int32 → Int32 → Int32 → Int32 → mo_G → Option mo_G} (hK : (∀ (x1 : Int32) (x2 : Int32) (x3 : Int32) (x4 : Int32) (g : mo_G), K x1 x2 x3 x4 g = some r → mj_W M_Mo_scatter (mj_q none (mo_up h r)) (1, 23, none) 0 0 187 [some (.ref 27), some (.int x1), some (.int x2), some (.int x3), some (.int x4), none, none, none, none, none] [] (mo_up h g))) : ∀ (n : Nat) (x1 : Int32) (x2 : Int32) (x3 : Int32) (x4 : Int32) (x5 : Int32) (g : mo_G), l_scatter_19 K n x1 x2 x3 x4 x5 g = some r → mj_W M_Mo_scatter (mj_q none (mo_up h r)) (1, 23, none) 0 0 19 [some (.ref 27), some (.int x1), some (.int x2), some (.int x3), some (.int x4), some (.int x5), none, none, none, none] [] (mo_up h g) := by
  intro n
  induction n with
  | zero =>
    intro x1 x2 x3 x4 x5 g hk
    cases hk
  | succ n hbk =>
    intro x1 x2 x3 x4 x5 g hk
    rw [l_scatter_19] at hk
    refine mj_iload d_Mo_scatter_19 rfl ?_
    refine mj_aload_n d_Mo_scatter_21 rfl ?_
    refine mj_get ok_Mo (k := 24) (v := .int (g.1 12)) (by decide) fl_Mo_200 d_Mo_scatter_22 (mo_h hl) rfl ?_
    refine mj_icmp_ge (tgt := 187) d_Mo_scatter_25 (by decide) (fun c_25 => ?_) (fun c_25 => ?_)
    · replace hk := og_pos c_25 hk
      refine mj_fg 5 (L' := [some (.ref 27), some (.int x1), some (.int x2), some (.int x3), some (.int x4), none, none, none, none, none]) rfl ?_
      exact hK _ _ _ _ _ hk
    · replace hk := og_neg c_25 hk
      refine mj_iload d_Mo_scatter_28 rfl ?_
      refine mj_aload_n d_Mo_scatter_30 rfl ?_
      refine mj_get ok_Mo (k := 13) (v := .ref 35) (by decide) fl_Mo_44 d_Mo_scatter_31 (mo_h hl) rfl ?_
      refine mj_iload d_Mo_scatter_34 rfl ?_
      have q1 := og_1 hk
      replace hk := og_2 hk
      refine mj_iald (f := (g.2 7)) d_Mo_scatter_36 (mo_a7 hl) q1 ?_
      have q2 := og_1 hk
      replace hk := og_2 hk
      refine mj_irem d_Mo_scatter_37 q2 ?_
      refine mj_if_eq (tgt := 44) d_Mo_scatter_38 (by decide) (fun c_38 => ?_) (fun c_38 => ?_)
      · replace hk := og_pos c_38 hk
        refine mj_iconst (v := 0) d_Mo_scatter_44 (by decide) ?_
        refine mj_istore (L' := [some (.ref 27), some (.int x1), some (.int x2), some (.int x3), some (.int x4), some (.int x5), some (.int 0), none, none, none]) d_Mo_scatter_45 (by decide) rfl rfl ?_
        refine mj_aload_n d_Mo_scatter_47 rfl ?_
        refine mj_get ok_Mo (k := 12) (v := .ref 34) (by decide) fl_Mo_41 d_Mo_scatter_48 (mo_h hl) rfl ?_
        refine mj_iload d_Mo_scatter_51 rfl ?_
        have q3 := og_1 hk
        replace hk := og_2 hk
        refine mj_iald (f := (g.2 6)) d_Mo_scatter_53 (mo_a6 hl) q3 ?_
        refine mj_iconst (v := 1) d_Mo_scatter_54 (by decide) ?_
        refine mj_icmp_eq (tgt := 62) d_Mo_scatter_55 (by decide) (fun c_55 => ?_) (fun c_55 => ?_)
        · replace hk := og_pos c_55 hk
          refine mj_aload_n d_Mo_scatter_62 rfl ?_
          refine mj_get ok_Mo (k := 25) (v := .int (g.1 13)) (by decide) fl_Mo_197 d_Mo_scatter_63 (mo_h hl) rfl ?_
          refine mj_iconst (v := 2) d_Mo_scatter_66 (by decide) ?_
          refine mj_icmp_ne (tgt := 74) d_Mo_scatter_67 (by decide) (fun c_67 => ?_) (fun c_67 => ?_)
          · replace hk := og_neg c_67 hk
            refine mj_iconst (v := 4) d_Mo_scatter_74 (by decide) ?_
            exact tj_scatter_75 hl hK hbk hk
          · replace hk := og_pos c_67 hk
            refine mj_iconst (v := 3) d_Mo_scatter_70 (by decide) ?_
            refine mj_goto (tgt := 75) d_Mo_scatter_71 (by decide) ?_
            exact tj_scatter_75 hl hK hbk hk
        · replace hk := og_neg c_55 hk
          refine mj_iconst (v := 2) d_Mo_scatter_58 (by decide) ?_
          refine mj_goto (tgt := 75) d_Mo_scatter_59 (by decide) ?_
          exact tj_scatter_75 hl hK hbk hk
      · replace hk := og_neg c_38 hk
        refine mj_goto (tgt := 181) d_Mo_scatter_41 (by decide) ?_
        exact tj_scatter_181 hl hK hbk hk
noncomputable def l_scatter_8 (K : mo_G → Option mo_G) : Nat → Int32 → Int32 → Int32 → Int32 → mo_G → Option mo_G
  | 0, _, _, _, _, _ => none
  | n + 1, x1, x2, x3, x4, g => if (x1 + x2) ≤ x4 then (K g) else (l_scatter_19 (fun y14 y15 y16 y17 g13 => (fun x1 x2 x3 x4 g => l_scatter_8 K n x1 x2 x3 x4 g) y14 y15 y16 (y17 + 1) g13) 2000 x1 x2 x3 x4 0 g)
set_option maxRecDepth 100000 in
set_option maxHeartbeats 4000000 in
theorem tl_scatter_8 {h : mj_H} {r : mo_G} (hl : 39 < h.length) {K : mo_G → Option mo_G} (hK : (∀ (g : mo_G), K g = some r → mj_W M_Mo_scatter (mj_q none (mo_up h r)) (1, 23, none) 0 0 193 [some (.ref 27), none, none, none, none, none, none, none, none, none] [] (mo_up h g))) : ∀ (n : Nat) (x1 : Int32) (x2 : Int32) (x3 : Int32) (x4 : Int32) (g : mo_G), l_scatter_8 K n x1 x2 x3 x4 g = some r → mj_W M_Mo_scatter (mj_q none (mo_up h r)) (1, 23, none) 0 0 8 [some (.ref 27), some (.int x1), some (.int x2), some (.int x3), some (.int x4), none, none, none, none, none] [] (mo_up h g) := by
  intro n
  induction n with
  | zero =>
    intro x1 x2 x3 x4 g hk
    cases hk
  | succ n hbk =>
    intro x1 x2 x3 x4 g hk
    rw [l_scatter_8] at hk
    refine mj_iload d_Mo_scatter_8 rfl ?_
    refine mj_iload_n d_Mo_scatter_10 rfl ?_
    refine mj_iload_n d_Mo_scatter_11 rfl ?_
    refine mj_iadd d_Mo_scatter_12 ?_
    refine mj_icmp_ge (tgt := 193) d_Mo_scatter_13 (by decide) (fun c_13 => ?_) (fun c_13 => ?_)
    · replace hk := og_pos c_13 hk
      refine mj_fg 1 (L' := [some (.ref 27), none, some (.int x2), some (.int x3), some (.int x4), none, none, none, none, none]) rfl ?_
      refine mj_fg 2 (L' := [some (.ref 27), none, none, some (.int x3), some (.int x4), none, none, none, none, none]) rfl ?_
      refine mj_fg 3 (L' := [some (.ref 27), none, none, none, some (.int x4), none, none, none, none, none]) rfl ?_
      refine mj_fg 4 (L' := [some (.ref 27), none, none, none, none, none, none, none, none, none]) rfl ?_
      exact hK _ hk
    · replace hk := og_neg c_13 hk
      refine mj_iconst (v := 0) d_Mo_scatter_16 (by decide) ?_
      refine mj_istore (L' := [some (.ref 27), some (.int x1), some (.int x2), some (.int x3), some (.int x4), some (.int 0), none, none, none, none]) d_Mo_scatter_17 (by decide) rfl rfl ?_
      refine tl_scatter_19 hl ?_ 2000 _ _ _ _ _ _ hk
      intro y14 y15 y16 y17 g13 hk
      refine mj_iinc (x := y17) (v := y17 + 1) (L' := [some (.ref 27), some (.int y14), some (.int y15), some (.int y16), some (.int (y17 + 1)), none, none, none, none, none]) d_Mo_scatter_187 rfl rfl (by decide) rfl rfl ?_
      refine mj_goto (tgt := 8) d_Mo_scatter_190 (by decide) ?_
      exact hbk _ _ _ _ _ hk
noncomputable def r_scatter (x1 : Int32) (x2 : Int32) (x3 : Int32) (g : mo_G) : Option mo_G := l_scatter_8 (fun  g18 => some g18) 2000 x1 x2 x3 x1 (upd g.1 14 0, g.2)
set_option maxRecDepth 100000 in
set_option maxHeartbeats 4000000 in
theorem tm_scatter {h : mj_H} {r : mo_G} (hl : 39 < h.length) {x1 : Int32} {x2 : Int32} {x3 : Int32} {g : mo_G} (hk : r_scatter x1 x2 x3 g = some r) : mj_Met M_Mo_scatter (1, 23, none) 0 0 [.ref 27, .int x1, .int x2, .int x3] (mo_up h g) (mj_q none (mo_up h r)) := by
  unfold r_scatter at hk
  refine mj_enter (r := 6) rfl rfl (by decide) rfl ?_
  show mj_W M_Mo_scatter _ _ _ _ 0 [some (.ref 27), some (.int x1), some (.int x2), some (.int x3), none, none, none, none, none, none] [] (mo_up h g)
  refine mj_aload_n d_Mo_scatter_0 rfl ?_
  refine mj_iconst (v := 0) d_Mo_scatter_1 (by decide) ?_
  refine mj_put ok_Mo (k := 26) (by decide) fl_Mo_207 rfl (fun _ => rfl) (fun _ => rfl) (Nat.le_of_ble_eq_true rfl) d_Mo_scatter_2 (mo_h hl) ?_
  refine mj_hp (h1 := mo_up h (upd g.1 14 0, g.2)) (mo_p14 (g := g) hl 0) ?_
  refine mj_iload_n d_Mo_scatter_5 rfl ?_
  refine mj_istore (L' := [some (.ref 27), some (.int x1), some (.int x2), some (.int x3), some (.int x1), none, none, none, none, none]) d_Mo_scatter_6 (by decide) rfl rfl ?_
  refine tl_scatter_8 hl ?_ 2000 _ _ _ _ _ hk
  intro  g18 hk
  cases hk
  exact mj_vret rfl d_Mo_scatter_193 ⟨rfl, rfl⟩
