noncomputable def j_unpack_140 (K : Int32 → Int32 → Int32 → mo_G → Option mo_G) (bk : Int32 → Int32 → Int32 → Int32 → Int32 → Int32 → mo_G → Option mo_G) (x1 : Int32) (x2 : Int32) (x3 : Int32) (x4 : Int32) (x5 : Int32) (x6 : Int32) (s0 : Int32) (s1 : Int32) (s3 : Int32) (g : mo_G) : Option mo_G := og (vp_in ((s1 + s0) : Int32) 1500) (og (vp_in (s3 : Int32) 1700) (bk x1 x2 x3 x4 x5 (x6 + 1) (upd g.1 6 (((g.1 6) + 1)), mo_uA g.2 10 (upd (g.2 10) (s3 : Int32).toNatClampNeg (((g.2 4) ((s1 + s0) : Int32).toNatClampNeg))))))
set_option maxRecDepth 100000 in
set_option maxHeartbeats 4000000 in
theorem tj_unpack_140 {h : mj_H} {r : mo_G} (hl : 39 < h.length) {K : Int32 → Int32 → Int32 → mo_G → Option mo_G} {bk : Int32 → Int32 → Int32 → Int32 → Int32 → Int32 → mo_G → Option mo_G} (hK : (∀ (x1 : Int32) (x2 : Int32) (x5 : Int32) (g : mo_G), K x1 x2 x5 g = some r → mj_W M_Mo_unpack (mj_q none (mo_up h r)) (1, 22, none) 0 0 159 [some (.ref 27), some (.int x1), some (.int x2), none, none, some (.int x5), none] [] (mo_up h g))) (hbk : (∀ (x1 : Int32) (x2 : Int32) (x3 : Int32) (x4 : Int32) (x5 : Int32) (x6 : Int32) (g : mo_G), bk x1 x2 x3 x4 x5 x6 g = some r → mj_W M_Mo_unpack (mj_q none (mo_up h r)) (1, 22, none) 0 0 102 [some (.ref 27), some (.int x1), some (.int x2), some (.int x3), some (.int x4), some (.int x5), some (.int x6)] [] (mo_up h g))) {x1 : Int32} {x2 : Int32} {x3 : Int32} {x4 : Int32} {x5 : Int32} {x6 : Int32} {s0 : Int32} {s1 : Int32} {s3 : Int32} {g : mo_G} (hk : j_unpack_140 K bk x1 x2 x3 x4 x5 x6 s0 s1 s3 g = some r) : mj_W M_Mo_unpack (mj_q none (mo_up h r)) (1, 22, none) 0 0 140 [some (.ref 27), some (.int x1), some (.int x2), some (.int x3), some (.int x4), some (.int x5), some (.int x6)] [.int s0, .int s1, .ref 32, .int s3, .ref 38] (mo_up h g) := by
  unfold j_unpack_140 at hk
  refine mj_iadd d_Mo_unpack_140 ?_
  have q3 := og_1 hk
  replace hk := og_2 hk
  refine mj_iald (f := (g.2 4)) d_Mo_unpack_141 (mo_a4 hl) q3 ?_
  have q4 := og_1 hk
  replace hk := og_2 hk
  refine mj_iast (f := (g.2 10)) d_Mo_unpack_142 (mo_a10 hl) q4 ?_
  refine mj_hp (h1 := mo_up h (g.1, mo_uA g.2 10 (upd (g.2 10) (s3 : Int32).toNatClampNeg (((g.2 4) ((s1 + s0) : Int32).toNatClampNeg))))) (mo_b10 (g := g) hl (upd (g.2 10) (s3 : Int32).toNatClampNeg (((g.2 4) ((s1 + s0) : Int32).toNatClampNeg)))) ?_
  refine mj_aload_n d_Mo_unpack_143 rfl ?_
  refine mj_dup d_Mo_unpack_144 rfl ?_
  refine mj_get ok_Mo (k := 18) (v := .int (g.1 6)) (by decide) fl_Mo_110 d_Mo_unpack_145 (mo_h hl) rfl ?_
  refine mj_iconst (v := 1) d_Mo_unpack_148 (by decide) ?_
  refine mj_iadd d_Mo_unpack_149 ?_
  refine mj_put ok_Mo (k := 18) (by decide) fl_Mo_110 rfl (fun _ => rfl) (fun _ => rfl) (Nat.le_of_ble_eq_true rfl) d_Mo_unpack_150 (mo_h hl) ?_
  refine mj_hp (h1 := mo_up h (upd g.1 6 (((g.1 6) + 1)), mo_uA g.2 10 (upd (g.2 10) (s3 : Int32).toNatClampNeg (((g.2 4) ((s1 + s0) : Int32).toNatClampNeg))))) (mo_p6 (g := (g.1, mo_uA g.2 10 (upd (g.2 10) (s3 : Int32).toNatClampNeg (((g.2 4) ((s1 + s0) : Int32).toNatClampNeg))))) hl (((g.1 6) + 1))) ?_
  refine mj_iinc (x := x6) (v := x6 + 1) (L' := [some (.ref 27), some (.int x1), some (.int x2), some (.int x3), some (.int x4), some (.int x5), some (.int (x6 + 1))]) d_Mo_unpack_153 rfl rfl (by decide) rfl rfl ?_
  refine mj_goto (tgt := 102) d_Mo_unpack_156 (by decide) ?_
  exact hbk _ _ _ _ _ _ _ hk
noncomputable def l_unpack_102 (K : Int32 → Int32 → Int32 → mo_G → Option mo_G) : Nat → Int32 → Int32 → Int32 → Int32 → Int32 → Int32 → mo_G → Option mo_G
  | 0, _, _, _, _, _, _, _ => none
  | n + 1, x1, x2, x3, x4, x5, x6, g => if x4 ≤ x6 then (K x1 x2 x5 g) else (if 128 ≤ x3 then (j_unpack_140 K (fun x1 x2 x3 x4 x5 x6 g => l_unpack_102 K n x1 x2 x3 x4 x5 x6 g) x1 x2 x3 x4 x5 x6 (1 + x6) (g.1 8) (g.1 6) g) else (j_unpack_140 K (fun x1 x2 x3 x4 x5 x6 g => l_unpack_102 K n x1 x2 x3 x4 x5 x6 g) x1 x2 x3 x4 x5 x6 1 (g.1 8) (g.1 6) g))
set_option maxRecDepth 100000 in
set_option maxHeartbeats 4000000 in
theorem tl_unpack_102 {h : mj_H} {r : mo_G} (hl : 39 < h.length) {K : Int32 → Int32 → Int32 → mo_G → Option mo_G} (hK : (∀ (x1 : Int32) (x2 : Int32) (x5 : Int32) (g : mo_G), K x1 x2 x5 g = some r → mj_W M_Mo_unpack (mj_q none (mo_up h r)) (1, 22, none) 0 0 159 [some (.ref 27), some (.int x1), some (.int x2), none, none, some (.int x5), none] [] (mo_up h g))) : ∀ (n : Nat) (x1 : Int32) (x2 : Int32) (x3 : Int32) (x4 : Int32) (x5 : Int32) (x6 : Int32) (g : mo_G), l_unpack_102 K n x1 x2 x3 x4 x5 x6 g = some r → mj_W M_Mo_unpack (mj_q none (mo_up h r)) (1, 22, none) 0 0 102 [some (.ref 27), some (.int x1), some (.int x2), some (.int x3), some (.int x4), some (.int x5), some (.int x6)] [] (mo_up h g) := by
  intro n
  induction n with
  | zero =>
    intro x1 x2 x3 x4 x5 x6 g hk
    cases hk
  | succ n hbk =>
    intro x1 x2 x3 x4 x5 x6 g hk
    rw [l_unpack_102] at hk
    refine mj_iload d_Mo_unpack_102 rfl ?_
    refine mj_iload d_Mo_unpack_104 rfl ?_
    refine mj_icmp_ge (tgt := 159) d_Mo_unpack_106 (by decide) (fun c_106 => ?_) (fun c_106 => ?_)
    · replace hk := og_pos c_106 hk
      refine mj_fg 3 (L' := [some (.ref 27), some (.int x1), some (.int x2), none, some (.int x4), some (.int x5), some (.int x6)]) rfl ?_
      refine mj_fg 4 (L' := [some (.ref 27), some (.int x1), some (.int x2), none, none, some (.int x5), some (.int x6)]) rfl ?_
      refine mj_fg 6 (L' := [some (.ref 27), some (.int x1), some (.int x2), none, none, some (.int x5), none]) rfl ?_
      exact hK _ _ _ _ hk
    · replace hk := og_neg c_106 hk
      refine mj_aload_n d_Mo_unpack_109 rfl ?_
      refine mj_get ok_Mo (k := 16) (v := .ref 38) (by decide) fl_Mo_53 d_Mo_unpack_110 (mo_h hl) rfl ?_
      refine mj_aload_n d_Mo_unpack_113 rfl ?_
      refine mj_get ok_Mo (k := 18) (v := .int (g.1 6)) (by decide) fl_Mo_110 d_Mo_unpack_114 (mo_h hl) rfl ?_
      refine mj_aload_n d_Mo_unpack_117 rfl ?_
      refine mj_get ok_Mo (k := 10) (v := .ref 32) (by decide) fl_Mo_35 d_Mo_unpack_118 (mo_h hl) rfl ?_
      refine mj_aload_n d_Mo_unpack_121 rfl ?_
      refine mj_get ok_Mo (k := 20) (v := .int (g.1 8)) (by decide) fl_Mo_182 d_Mo_unpack_122 (mo_h hl) rfl ?_
      refine mj_iload_n d_Mo_unpack_125 rfl ?_
      refine mj_sipush (v := 128) d_Mo_unpack_126 (by decide) ?_
      refine mj_icmp_ge (tgt := 136) d_Mo_unpack_129 (by decide) (fun c_129 => ?_) (fun c_129 => ?_)
      · replace hk := og_pos c_129 hk
        refine mj_iconst (v := 1) d_Mo_unpack_136 (by decide) ?_
        refine mj_iload d_Mo_unpack_137 rfl ?_
        refine mj_iadd d_Mo_unpack_139 ?_
        exact tj_unpack_140 hl hK hbk hk
      · replace hk := og_neg c_129 hk
        refine mj_iconst (v := 1) d_Mo_unpack_132 (by decide) ?_
        refine mj_goto (tgt := 140) d_Mo_unpack_133 (by decide) ?_
        exact tj_unpack_140 hl hK hbk hk
noncomputable def j_unpack_65 (K : Int32 → Int32 → mo_G → Option mo_G) (bk : Int32 → Int32 → mo_G → Option mo_G) (x1 : Int32) (x2 : Int32) (x3 : Int32) (x4 : Int32) (s0 : Int32) (g : mo_G) : Option mo_G := if x1 < (((g.1 8) + s0)) then ((r_wrong (g.1 8) 1 g).bind (fun z2 => some z2)) else (if (((g.1 6) + x4)) ≤ x2 then (l_unpack_102 (fun y6 y7 y8 g5 => bk y6 y7 (upd g5.1 8 (((g5.1 8) + y8)), g5.2)) 2000 x1 x2 x3 x4 s0 0 g) else ((r_wrong (g.1 8) 1 g).bind (fun z9 => some z9)))
set_option maxRecDepth 100000 in
set_option maxHeartbeats 4000000 in
theorem tj_unpack_65 {h : mj_H} {r : mo_G} (hl : 39 < h.length) {K : Int32 → Int32 → mo_G → Option mo_G} {bk : Int32 → Int32 → mo_G → Option mo_G} (hK : (∀ (x1 : Int32) (x2 : Int32) (g : mo_G), K x1 x2 g = some r → mj_W M_Mo_unpack (mj_q none (mo_up h r)) (1, 22, none) 0 0 173 [some (.ref 27), some (.int x1), some (.int x2), none, none, none, none] [] (mo_up h g))) (hbk : (∀ (x1 : Int32) (x2 : Int32) (g : mo_G), bk x1 x2 g = some r → mj_W M_Mo_unpack (mj_q none (mo_up h r)) (1, 22, none) 0 0 5 [some (.ref 27), some (.int x1), some (.int x2), none, none, none, none] [] (mo_up h g))) {x1 : Int32} {x2 : Int32} {x3 : Int32} {x4 : Int32} {s0 : Int32} {g : mo_G} (hk : j_unpack_65 K bk x1 x2 x3 x4 s0 g = some r) : mj_W M_Mo_unpack (mj_q none (mo_up h r)) (1, 22, none) 0 0 65 [some (.ref 27), some (.int x1), some (.int x2), some (.int x3), some (.int x4), none, none] [.int s0] (mo_up h g) := by
  unfold j_unpack_65 at hk
  refine mj_istore (L' := [some (.ref 27), some (.int x1), some (.int x2), some (.int x3), some (.int x4), some (.int s0), none]) d_Mo_unpack_65 (by decide) rfl rfl ?_
  refine mj_aload_n d_Mo_unpack_67 rfl ?_
  refine mj_get ok_Mo (k := 20) (v := .int (g.1 8)) (by decide) fl_Mo_182 d_Mo_unpack_68 (mo_h hl) rfl ?_
  refine mj_iload d_Mo_unpack_71 rfl ?_
  refine mj_iadd d_Mo_unpack_73 ?_
  refine mj_iload_n d_Mo_unpack_74 rfl ?_
  refine mj_icmp_gt (tgt := 89) d_Mo_unpack_75 (by decide) (fun c_75 => ?_) (fun c_75 => ?_)
  · replace hk := og_pos c_75 hk
    refine mj_aload_n d_Mo_unpack_89 rfl ?_
    refine mj_aload_n d_Mo_unpack_90 rfl ?_
    refine mj_get ok_Mo (k := 20) (v := .int (g.1 8)) (by decide) fl_Mo_182 d_Mo_unpack_91 (mo_h hl) rfl ?_
    refine mj_iconst (v := 1) d_Mo_unpack_94 (by decide) ?_
    obtain ⟨z2, hz2, hk⟩ := og_b hk
    refine mj_cV (S := []) (S1 := []) (tm_wrong hl hz2) d_Mo_unpack_95 cw_Mo_wrong ml_Mo_185 im_Mo_wrong se_Mo_wrong rfl (mo_h hl) (by decide) rfl (Nat.le_of_ble_eq_true rfl) rfl rfl ?_
    cases hk
    exact mj_vret rfl d_Mo_unpack_98 ⟨rfl, rfl⟩
  · replace hk := og_neg c_75 hk
    refine mj_aload_n d_Mo_unpack_78 rfl ?_
    refine mj_get ok_Mo (k := 18) (v := .int (g.1 6)) (by decide) fl_Mo_110 d_Mo_unpack_79 (mo_h hl) rfl ?_
    refine mj_iload d_Mo_unpack_82 rfl ?_
    refine mj_iadd d_Mo_unpack_84 ?_
    refine mj_iload_n d_Mo_unpack_85 rfl ?_
    refine mj_icmp_le (tgt := 99) d_Mo_unpack_86 (by decide) (fun c_86 => ?_) (fun c_86 => ?_)
    · replace hk := og_pos c_86 hk
      refine mj_iconst (v := 0) d_Mo_unpack_99 (by decide) ?_
      refine mj_istore (L' := [some (.ref 27), some (.int x1), some (.int x2), some (.int x3), some (.int x4), some (.int s0), some (.int 0)]) d_Mo_unpack_100 (by decide) rfl rfl ?_
      refine tl_unpack_102 hl ?_ 2000 _ _ _ _ _ _ _ hk
      intro y6 y7 y8 g5 hk
      refine mj_aload_n d_Mo_unpack_159 rfl ?_
      refine mj_dup d_Mo_unpack_160 rfl ?_
      refine mj_get ok_Mo (k := 20) (v := .int (g5.1 8)) (by decide) fl_Mo_182 d_Mo_unpack_161 (mo_h hl) rfl ?_
      refine mj_iload d_Mo_unpack_164 rfl ?_
      refine mj_iadd d_Mo_unpack_166 ?_
      refine mj_put ok_Mo (k := 20) (by decide) fl_Mo_182 rfl (fun _ => rfl) (fun _ => rfl) (Nat.le_of_ble_eq_true rfl) d_Mo_unpack_167 (mo_h hl) ?_
      refine mj_hp (h1 := mo_up h (upd g5.1 8 (((g5.1 8) + y8)), g5.2)) (mo_p8 (g := g5) hl (((g5.1 8) + y8))) ?_
      refine mj_goto (tgt := 5) d_Mo_unpack_170 (by decide) ?_
      refine mj_fg 5 (L' := [some (.ref 27), some (.int y6), some (.int y7), none, none, none, none]) rfl ?_
      exact hbk _ _ _ hk
    · replace hk := og_neg c_86 hk
      refine mj_aload_n d_Mo_unpack_89 rfl ?_
      refine mj_aload_n d_Mo_unpack_90 rfl ?_
      refine mj_get ok_Mo (k := 20) (v := .int (g.1 8)) (by decide) fl_Mo_182 d_Mo_unpack_91 (mo_h hl) rfl ?_
      refine mj_iconst (v := 1) d_Mo_unpack_94 (by decide) ?_
      obtain ⟨z9, hz9, hk⟩ := og_b hk
      refine mj_cV (S := []) (S1 := []) (tm_wrong hl hz9) d_Mo_unpack_95 cw_Mo_wrong ml_Mo_185 im_Mo_wrong se_Mo_wrong rfl (mo_h hl) (by decide) rfl (Nat.le_of_ble_eq_true rfl) rfl rfl ?_
      cases hk
      exact mj_vret rfl d_Mo_unpack_98 ⟨rfl, rfl⟩
noncomputable def j_unpack_48 (K : Int32 → Int32 → mo_G → Option mo_G) (bk : Int32 → Int32 → mo_G → Option mo_G) (x1 : Int32) (x2 : Int32) (x3 : Int32) (s0 : Int32) (g : mo_G) : Option mo_G := if 128 ≤ x3 then (j_unpack_65 K bk x1 x2 x3 s0 (s0 + 1) g) else (j_unpack_65 K bk x1 x2 x3 s0 2 g)
set_option maxRecDepth 100000 in
set_option maxHeartbeats 4000000 in
theorem tj_unpack_48 {h : mj_H} {r : mo_G} (hl : 39 < h.length) {K : Int32 → Int32 → mo_G → Option mo_G} {bk : Int32 → Int32 → mo_G → Option mo_G} (hK : (∀ (x1 : Int32) (x2 : Int32) (g : mo_G), K x1 x2 g = some r → mj_W M_Mo_unpack (mj_q none (mo_up h r)) (1, 22, none) 0 0 173 [some (.ref 27), some (.int x1), some (.int x2), none, none, none, none] [] (mo_up h g))) (hbk : (∀ (x1 : Int32) (x2 : Int32) (g : mo_G), bk x1 x2 g = some r → mj_W M_Mo_unpack (mj_q none (mo_up h r)) (1, 22, none) 0 0 5 [some (.ref 27), some (.int x1), some (.int x2), none, none, none, none] [] (mo_up h g))) {x1 : Int32} {x2 : Int32} {x3 : Int32} {s0 : Int32} {g : mo_G} (hk : j_unpack_48 K bk x1 x2 x3 s0 g = some r) : mj_W M_Mo_unpack (mj_q none (mo_up h r)) (1, 22, none) 0 0 48 [some (.ref 27), some (.int x1), some (.int x2), some (.int x3), none, none, none] [.int s0] (mo_up h g) := by
  unfold j_unpack_48 at hk
  refine mj_istore (L' := [some (.ref 27), some (.int x1), some (.int x2), some (.int x3), some (.int s0), none, none]) d_Mo_unpack_48 (by decide) rfl rfl ?_
  refine mj_iload_n d_Mo_unpack_50 rfl ?_
  refine mj_sipush (v := 128) d_Mo_unpack_51 (by decide) ?_
  refine mj_icmp_ge (tgt := 61) d_Mo_unpack_54 (by decide) (fun c_54 => ?_) (fun c_54 => ?_)
  · replace hk := og_pos c_54 hk
    refine mj_iload d_Mo_unpack_61 rfl ?_
    refine mj_iconst (v := 1) d_Mo_unpack_63 (by decide) ?_
    refine mj_iadd d_Mo_unpack_64 ?_
    exact tj_unpack_65 hl hK hbk hk
  · replace hk := og_neg c_54 hk
    refine mj_iconst (v := 2) d_Mo_unpack_57 (by decide) ?_
    refine mj_goto (tgt := 65) d_Mo_unpack_58 (by decide) ?_
    exact tj_unpack_65 hl hK hbk hk
noncomputable def l_unpack_5 (K : Int32 → Int32 → mo_G → Option mo_G) : Nat → Int32 → Int32 → mo_G → Option mo_G
  | 0, _, _, _ => none
  | n + 1, x1, x2, g => if x1 ≤ (g.1 8) then (K x1 x2 g) else (if (g.1 9) = 0 then (og (vp_in ((g.1 8) : Int32) 1500) (if 128 ≤ (((g.2 4) ((g.1 8) : Int32).toNatClampNeg)) then (j_unpack_48 K (fun x1 x2 g => l_unpack_5 K n x1 x2 g) x1 x2 (((g.2 4) ((g.1 8) : Int32).toNatClampNeg)) ((256 - (((g.2 4) ((g.1 8) : Int32).toNatClampNeg)))) g) else (j_unpack_48 K (fun x1 x2 g => l_unpack_5 K n x1 x2 g) x1 x2 (((g.2 4) ((g.1 8) : Int32).toNatClampNeg)) (((((g.2 4) ((g.1 8) : Int32).toNatClampNeg)) + 1)) g))) else (K x1 x2 g))
set_option maxRecDepth 100000 in
set_option maxHeartbeats 4000000 in
theorem tl_unpack_5 {h : mj_H} {r : mo_G} (hl : 39 < h.length) {K : Int32 → Int32 → mo_G → Option mo_G} (hK : (∀ (x1 : Int32) (x2 : Int32) (g : mo_G), K x1 x2 g = some r → mj_W M_Mo_unpack (mj_q none (mo_up h r)) (1, 22, none) 0 0 173 [some (.ref 27), some (.int x1), some (.int x2), none, none, none, none] [] (mo_up h g))) : ∀ (n : Nat) (x1 : Int32) (x2 : Int32) (g : mo_G), l_unpack_5 K n x1 x2 g = some r → mj_W M_Mo_unpack (mj_q none (mo_up h r)) (1, 22, none) 0 0 5 [some (.ref 27), some (.int x1), some (.int x2), none, none, none, none] [] (mo_up h g) := by
  intro n
  induction n with
  | zero =>
    intro x1 x2 g hk
    cases hk
  | succ n hbk =>
    intro x1 x2 g hk
    rw [l_unpack_5] at hk
    refine mj_aload_n d_Mo_unpack_5 rfl ?_
    refine mj_get ok_Mo (k := 20) (v := .int (g.1 8)) (by decide) fl_Mo_182 d_Mo_unpack_6 (mo_h hl) rfl ?_
    refine mj_iload_n d_Mo_unpack_9 rfl ?_
    refine mj_icmp_ge (tgt := 173) d_Mo_unpack_10 (by decide) (fun c_10 => ?_) (fun c_10 => ?_)
    · replace hk := og_pos c_10 hk
      exact hK _ _ _ hk
    · replace hk := og_neg c_10 hk
      refine mj_aload_n d_Mo_unpack_13 rfl ?_
      refine mj_get ok_Mo (k := 21) (v := .int (g.1 9)) (by decide) fl_Mo_179 d_Mo_unpack_14 (mo_h hl) rfl ?_
      refine mj_if_ne (tgt := 173) d_Mo_unpack_17 (by decide) (fun c_17 => ?_) (fun c_17 => ?_)
      · replace hk := og_neg c_17 hk
        exact hK _ _ _ hk
      · replace hk := og_pos c_17 hk
        refine mj_aload_n d_Mo_unpack_20 rfl ?_
        refine mj_get ok_Mo (k := 10) (v := .ref 32) (by decide) fl_Mo_35 d_Mo_unpack_21 (mo_h hl) rfl ?_
        refine mj_aload_n d_Mo_unpack_24 rfl ?_
        refine mj_get ok_Mo (k := 20) (v := .int (g.1 8)) (by decide) fl_Mo_182 d_Mo_unpack_25 (mo_h hl) rfl ?_
        have q1 := og_1 hk
        replace hk := og_2 hk
        refine mj_iald (f := (g.2 4)) d_Mo_unpack_28 (mo_a4 hl) q1 ?_
        refine mj_istore_n (L' := [some (.ref 27), some (.int x1), some (.int x2), some (.int ((g.2 4) ((g.1 8) : Int32).toNatClampNeg)), none, none, none]) d_Mo_unpack_29 (by decide) rfl rfl ?_
        refine mj_iload_n d_Mo_unpack_30 rfl ?_
        refine mj_sipush (v := 128) d_Mo_unpack_31 (by decide) ?_
        refine mj_icmp_ge (tgt := 43) d_Mo_unpack_34 (by decide) (fun c_34 => ?_) (fun c_34 => ?_)
        · replace hk := og_pos c_34 hk
          refine mj_sipush (v := 256) d_Mo_unpack_43 (by decide) ?_
          refine mj_iload_n d_Mo_unpack_46 rfl ?_
          refine mj_isub d_Mo_unpack_47 ?_
          exact tj_unpack_48 hl hK hbk hk
        · replace hk := og_neg c_34 hk
          refine mj_iload_n d_Mo_unpack_37 rfl ?_
          refine mj_iconst (v := 1) d_Mo_unpack_38 (by decide) ?_
          refine mj_iadd d_Mo_unpack_39 ?_
          refine mj_goto (tgt := 48) d_Mo_unpack_40 (by decide) ?_
          exact tj_unpack_48 hl hK hbk hk
noncomputable def l_unpack_204 (K : mo_G → Option mo_G) : Nat → Int32 → mo_G → Option mo_G
  | 0, _, _ => none
  | n + 1, x3, g => if (g.1 6) ≤ x3 then (K g) else (og (vp_in (x3 : Int32) 1700) (og (vp_in ((x3 - 1) : Int32) 1700) (og (vp_in (x3 : Int32) 1700) ((fun x3 g => l_unpack_204 K n x3 g) (x3 + 1) (g.1, mo_uA g.2 10 (upd (g.2 10) (x3 : Int32).toNatClampNeg (((((((((g.2 10) (x3 : Int32).toNatClampNeg)) + (((g.2 10) ((x3 - 1) : Int32).toNatClampNeg)))) - 128)) &&& 255))))))))
set_option maxRecDepth 100000 in
set_option maxHeartbeats 4000000 in
theorem tl_unpack_204 {h : mj_H} {r : mo_G} (hl : 39 < h.length) {K : mo_G → Option mo_G} (hK : (∀ (g : mo_G), K g = some r → mj_W M_Mo_unpack (mj_q none (mo_up h r)) (1, 22, none) 0 0 247 [some (.ref 27), none, none, none, none, none, none] [] (mo_up h g))) : ∀ (n : Nat) (x3 : Int32) (g : mo_G), l_unpack_204 K n x3 g = some r → mj_W M_Mo_unpack (mj_q none (mo_up h r)) (1, 22, none) 0 0 204 [some (.ref 27), none, none, some (.int x3), none, none, none] [] (mo_up h g) := by
  intro n
  induction n with
  | zero =>
    intro x3 g hk
    cases hk
  | succ n hbk =>
    intro x3 g hk
    rw [l_unpack_204] at hk
    refine mj_iload_n d_Mo_unpack_204 rfl ?_
    refine mj_aload_n d_Mo_unpack_205 rfl ?_
    refine mj_get ok_Mo (k := 18) (v := .int (g.1 6)) (by decide) fl_Mo_110 d_Mo_unpack_206 (mo_h hl) rfl ?_
    refine mj_icmp_ge (tgt := 247) d_Mo_unpack_209 (by decide) (fun c_209 => ?_) (fun c_209 => ?_)
    · replace hk := og_pos c_209 hk
      refine mj_fg 3 (L' := [some (.ref 27), none, none, none, none, none, none]) rfl ?_
      exact hK _ hk
    · replace hk := og_neg c_209 hk
      refine mj_aload_n d_Mo_unpack_212 rfl ?_
      refine mj_get ok_Mo (k := 16) (v := .ref 38) (by decide) fl_Mo_53 d_Mo_unpack_213 (mo_h hl) rfl ?_
      refine mj_iload_n d_Mo_unpack_216 rfl ?_
      refine mj_aload_n d_Mo_unpack_217 rfl ?_
      refine mj_get ok_Mo (k := 16) (v := .ref 38) (by decide) fl_Mo_53 d_Mo_unpack_218 (mo_h hl) rfl ?_
      refine mj_iload_n d_Mo_unpack_221 rfl ?_
      have q13 := og_1 hk
      replace hk := og_2 hk
      refine mj_iald (f := (g.2 10)) d_Mo_unpack_222 (mo_a10 hl) q13 ?_
      refine mj_aload_n d_Mo_unpack_223 rfl ?_
      refine mj_get ok_Mo (k := 16) (v := .ref 38) (by decide) fl_Mo_53 d_Mo_unpack_224 (mo_h hl) rfl ?_
      refine mj_iload_n d_Mo_unpack_227 rfl ?_
      refine mj_iconst (v := 1) d_Mo_unpack_228 (by decide) ?_
      refine mj_isub d_Mo_unpack_229 ?_
      have q14 := og_1 hk
      replace hk := og_2 hk
      refine mj_iald (f := (g.2 10)) d_Mo_unpack_230 (mo_a10 hl) q14 ?_
      refine mj_iadd d_Mo_unpack_231 ?_
      refine mj_sipush (v := 128) d_Mo_unpack_232 (by decide) ?_
      refine mj_isub d_Mo_unpack_235 ?_
      refine mj_sipush (v := 255) d_Mo_unpack_236 (by decide) ?_
      refine mj_iand d_Mo_unpack_239 ?_
      have q15 := og_1 hk
      replace hk := og_2 hk
      refine mj_iast (f := (g.2 10)) d_Mo_unpack_240 (mo_a10 hl) q15 ?_
      refine mj_hp (h1 := mo_up h (g.1, mo_uA g.2 10 (upd (g.2 10) (x3 : Int32).toNatClampNeg (((((((((g.2 10) (x3 : Int32).toNatClampNeg)) + (((g.2 10) ((x3 - 1) : Int32).toNatClampNeg)))) - 128)) &&& 255))))) (mo_b10 (g := g) hl (upd (g.2 10) (x3 : Int32).toNatClampNeg (((((((((g.2 10) (x3 : Int32).toNatClampNeg)) + (((g.2 10) ((x3 - 1) : Int32).toNatClampNeg)))) - 128)) &&& 255)))) ?_
      refine mj_iinc (x := x3) (v := x3 + 1) (L' := [some (.ref 27), none, none, some (.int (x3 + 1)), none, none, none]) d_Mo_unpack_241 rfl rfl (by decide) rfl rfl ?_
      refine mj_goto (tgt := 204) d_Mo_unpack_244 (by decide) ?_
      exact hbk _ _ hk
noncomputable def j_unpack_293 (K : mo_G → Option mo_G) (bk : Int32 → Int32 → mo_G → Option mo_G) (x3 : Int32) (x4 : Int32) (s0 : Int32) (g : mo_G) : Option mo_G := og (vp_in (x4 : Int32) 1700) (og (vp_in (s0 : Int32) 800) (bk x3 (x4 + 1) (g.1, mo_uA g.2 9 (upd (g.2 9) (s0 : Int32).toNatClampNeg (((g.2 10) (x4 : Int32).toNatClampNeg))))))
set_option maxRecDepth 100000 in
set_option maxHeartbeats 4000000 in
theorem tj_unpack_293 {h : mj_H} {r : mo_G} (hl : 39 < h.length) {K : mo_G → Option mo_G} {bk : Int32 → Int32 → mo_G → Option mo_G} (hK : (∀ (g : mo_G), K g = some r → mj_W M_Mo_unpack (mj_q none (mo_up h r)) (1, 22, none) 0 0 307 [some (.ref 27), none, none, none, none, none, none] [] (mo_up h g))) (hbk : (∀ (x3 : Int32) (x4 : Int32) (g : mo_G), bk x3 x4 g = some r → mj_W M_Mo_unpack (mj_q none (mo_up h r)) (1, 22, none) 0 0 259 [some (.ref 27), none, none, some (.int x3), some (.int x4), none, none] [] (mo_up h g))) {x3 : Int32} {x4 : Int32} {s0 : Int32} {g : mo_G} (hk : j_unpack_293 K bk x3 x4 s0 g = some r) : mj_W M_Mo_unpack (mj_q none (mo_up h r)) (1, 22, none) 0 0 293 [some (.ref 27), none, none, some (.int x3), some (.int x4), none, none] [.int s0, .ref 37] (mo_up h g) := by
  unfold j_unpack_293 at hk
  refine mj_aload_n d_Mo_unpack_293 rfl ?_
  refine mj_get ok_Mo (k := 16) (v := .ref 38) (by decide) fl_Mo_53 d_Mo_unpack_294 (mo_h hl) rfl ?_
  refine mj_iload d_Mo_unpack_297 rfl ?_
  have q17 := og_1 hk
  replace hk := og_2 hk
  refine mj_iald (f := (g.2 10)) d_Mo_unpack_299 (mo_a10 hl) q17 ?_
  have q18 := og_1 hk
  replace hk := og_2 hk
  refine mj_iast (f := (g.2 9)) d_Mo_unpack_300 (mo_a9 hl) q18 ?_
  refine mj_hp (h1 := mo_up h (g.1, mo_uA g.2 9 (upd (g.2 9) (s0 : Int32).toNatClampNeg (((g.2 10) (x4 : Int32).toNatClampNeg))))) (mo_b9 (g := g) hl (upd (g.2 9) (s0 : Int32).toNatClampNeg (((g.2 10) (x4 : Int32).toNatClampNeg)))) ?_
  refine mj_iinc (x := x4) (v := x4 + 1) (L' := [some (.ref 27), none, none, some (.int x3), some (.int (x4 + 1)), none, none]) d_Mo_unpack_301 rfl rfl (by decide) rfl rfl ?_
  refine mj_goto (tgt := 259) d_Mo_unpack_304 (by decide) ?_
  exact hbk _ _ _ hk
noncomputable def l_unpack_259 (K : mo_G → Option mo_G) : Nat → Int32 → Int32 → mo_G → Option mo_G
  | 0, _, _, _ => none
  | n + 1, x3, x4, g => if (g.1 6) ≤ x4 then (K g) else (if x3 ≤ x4 then (j_unpack_293 K (fun x3 x4 g => l_unpack_259 K n x3 x4 g) x3 x4 ((((2 * (x4 - x3))) + 1)) g) else (j_unpack_293 K (fun x3 x4 g => l_unpack_259 K n x3 x4 g) x3 x4 (2 * x4) g))
set_option maxRecDepth 100000 in
set_option maxHeartbeats 4000000 in
theorem tl_unpack_259 {h : mj_H} {r : mo_G} (hl : 39 < h.length) {K : mo_G → Option mo_G} (hK : (∀ (g : mo_G), K g = some r → mj_W M_Mo_unpack (mj_q none (mo_up h r)) (1, 22, none) 0 0 307 [some (.ref 27), none, none, none, none, none, none] [] (mo_up h g))) : ∀ (n : Nat) (x3 : Int32) (x4 : Int32) (g : mo_G), l_unpack_259 K n x3 x4 g = some r → mj_W M_Mo_unpack (mj_q none (mo_up h r)) (1, 22, none) 0 0 259 [some (.ref 27), none, none, some (.int x3), some (.int x4), none, none] [] (mo_up h g) := by
  intro n
  induction n with
  | zero =>
    intro x3 x4 g hk
    cases hk
  | succ n hbk =>
    intro x3 x4 g hk
    rw [l_unpack_259] at hk
    refine mj_iload d_Mo_unpack_259 rfl ?_
    refine mj_aload_n d_Mo_unpack_261 rfl ?_
    refine mj_get ok_Mo (k := 18) (v := .int (g.1 6)) (by decide) fl_Mo_110 d_Mo_unpack_262 (mo_h hl) rfl ?_
    refine mj_icmp_ge (tgt := 307) d_Mo_unpack_265 (by decide) (fun c_265 => ?_) (fun c_265 => ?_)
    · replace hk := og_pos c_265 hk
      refine mj_fg 3 (L' := [some (.ref 27), none, none, none, some (.int x4), none, none]) rfl ?_
      refine mj_fg 4 (L' := [some (.ref 27), none, none, none, none, none, none]) rfl ?_
      exact hK _ hk
    · replace hk := og_neg c_265 hk
      refine mj_aload_n d_Mo_unpack_268 rfl ?_
      refine mj_get ok_Mo (k := 15) (v := .ref 37) (by decide) fl_Mo_50 d_Mo_unpack_269 (mo_h hl) rfl ?_
      refine mj_iload d_Mo_unpack_272 rfl ?_
      refine mj_iload_n d_Mo_unpack_274 rfl ?_
      refine mj_icmp_ge (tgt := 285) d_Mo_unpack_275 (by decide) (fun c_275 => ?_) (fun c_275 => ?_)
      · replace hk := og_pos c_275 hk
        refine mj_iconst (v := 2) d_Mo_unpack_285 (by decide) ?_
        refine mj_iload d_Mo_unpack_286 rfl ?_
        refine mj_iload_n d_Mo_unpack_288 rfl ?_
        refine mj_isub d_Mo_unpack_289 ?_
        refine mj_imul d_Mo_unpack_290 ?_
        refine mj_iconst (v := 1) d_Mo_unpack_291 (by decide) ?_
        refine mj_iadd d_Mo_unpack_292 ?_
        exact tj_unpack_293 hl hK hbk hk
      · replace hk := og_neg c_275 hk
        refine mj_iconst (v := 2) d_Mo_unpack_278 (by decide) ?_
        refine mj_iload d_Mo_unpack_279 rfl ?_
        refine mj_imul d_Mo_unpack_281 ?_
        refine mj_goto (tgt := 293) d_Mo_unpack_282 (by decide) ?_
        exact tj_unpack_293 hl hK hbk hk
noncomputable def j_unpack_194 (g : mo_G) : Option mo_G := if (g.1 9) ≤ 0 then (l_unpack_204 (fun  g16 => l_unpack_259 (fun  g19 => some g19) 2000 (((((g16.1 6) + 1)) / 2)) 0 g16) 2000 1 g) else (some g)
set_option maxRecDepth 100000 in
set_option maxHeartbeats 4000000 in
theorem tj_unpack_194 {h : mj_H} {r : mo_G} (hl : 39 < h.length) {g : mo_G} (hk : j_unpack_194 g = some r) : mj_W M_Mo_unpack (mj_q none (mo_up h r)) (1, 22, none) 0 0 194 [some (.ref 27), none, none, none, none, none, none] [] (mo_up h g) := by
  unfold j_unpack_194 at hk
  refine mj_aload_n d_Mo_unpack_194 rfl ?_
  refine mj_get ok_Mo (k := 21) (v := .int (g.1 9)) (by decide) fl_Mo_179 d_Mo_unpack_195 (mo_h hl) rfl ?_
  refine mj_if_le (tgt := 202) d_Mo_unpack_198 (by decide) (fun c_198 => ?_) (fun c_198 => ?_)
  · replace hk := og_pos c_198 hk
    refine mj_iconst (v := 1) d_Mo_unpack_202 (by decide) ?_
    refine mj_istore_n (L' := [some (.ref 27), none, none, some (.int 1), none, none, none]) d_Mo_unpack_203 (by decide) rfl rfl ?_
    refine tl_unpack_204 hl ?_ 2000 _ _ hk
    intro  g16 hk
    refine mj_aload_n d_Mo_unpack_247 rfl ?_
    refine mj_get ok_Mo (k := 18) (v := .int (g16.1 6)) (by decide) fl_Mo_110 d_Mo_unpack_248 (mo_h hl) rfl ?_
    refine mj_iconst (v := 1) d_Mo_unpack_251 (by decide) ?_
    refine mj_iadd d_Mo_unpack_252 ?_
    refine mj_iconst (v := 2) d_Mo_unpack_253 (by decide) ?_
    refine mj_idiv d_Mo_unpack_254 (by decide) ?_
    refine mj_istore_n (L' := [some (.ref 27), none, none, some (.int ((((g16.1 6) + 1)) / 2)), none, none, none]) d_Mo_unpack_255 (by decide) rfl rfl ?_
    refine mj_iconst (v := 0) d_Mo_unpack_256 (by decide) ?_
    refine mj_istore (L' := [some (.ref 27), none, none, some (.int ((((g16.1 6) + 1)) / 2)), some (.int 0), none, none]) d_Mo_unpack_257 (by decide) rfl rfl ?_
    refine tl_unpack_259 hl ?_ 2000 _ _ _ hk
    intro  g19 hk
    cases hk
    exact mj_vret rfl d_Mo_unpack_307 ⟨rfl, rfl⟩
  · replace hk := og_neg c_198 hk
    cases hk
    exact mj_vret rfl d_Mo_unpack_201 ⟨rfl, rfl⟩
noncomputable def j_unpack_173 (x1 : Int32) (x2 : Int32) (g : mo_G) : Option mo_G := if (g.1 9) = 0 then (if x2 ≤ (g.1 6) then (j_unpack_194 g) else ((r_wrong x1 1 g).bind (fun z20 => j_unpack_194 z20))) else (j_unpack_194 g)
set_option maxRecDepth 100000 in
set_option maxHeartbeats 4000000 in
theorem tj_unpack_173 {h : mj_H} {r : mo_G} (hl : 39 < h.length) {x1 : Int32} {x2 : Int32} {g : mo_G} (hk : j_unpack_173 x1 x2 g = some r) : mj_W M_Mo_unpack (mj_q none (mo_up h r)) (1, 22, none) 0 0 173 [some (.ref 27), some (.int x1), some (.int x2), none, none, none, none] [] (mo_up h g) := by
  unfold j_unpack_173 at hk
  refine mj_aload_n d_Mo_unpack_173 rfl ?_
  refine mj_get ok_Mo (k := 21) (v := .int (g.1 9)) (by decide) fl_Mo_179 d_Mo_unpack_174 (mo_h hl) rfl ?_
  refine mj_if_ne (tgt := 194) d_Mo_unpack_177 (by decide) (fun c_177 => ?_) (fun c_177 => ?_)
  · replace hk := og_neg c_177 hk
    refine mj_fg 1 (L' := [some (.ref 27), none, some (.int x2), none, none, none, none]) rfl ?_
    refine mj_fg 2 (L' := [some (.ref 27), none, none, none, none, none, none]) rfl ?_
    exact tj_unpack_194 hl hk
  · replace hk := og_pos c_177 hk
    refine mj_aload_n d_Mo_unpack_180 rfl ?_
    refine mj_get ok_Mo (k := 18) (v := .int (g.1 6)) (by decide) fl_Mo_110 d_Mo_unpack_181 (mo_h hl) rfl ?_
    refine mj_iload_n d_Mo_unpack_184 rfl ?_
    refine mj_icmp_ge (tgt := 194) d_Mo_unpack_185 (by decide) (fun c_185 => ?_) (fun c_185 => ?_)
    · replace hk := og_pos c_185 hk
      refine mj_fg 1 (L' := [some (.ref 27), none, some (.int x2), none, none, none, none]) rfl ?_
      refine mj_fg 2 (L' := [some (.ref 27), none, none, none, none, none, none]) rfl ?_
      exact tj_unpack_194 hl hk
    · replace hk := og_neg c_185 hk
      refine mj_aload_n d_Mo_unpack_188 rfl ?_
      refine mj_iload_n d_Mo_unpack_189 rfl ?_
      refine mj_iconst (v := 1) d_Mo_unpack_190 (by decide) ?_
      obtain ⟨z20, hz20, hk⟩ := og_b hk
      refine mj_cV (S := []) (S1 := []) (tm_wrong hl hz20) d_Mo_unpack_191 cw_Mo_wrong ml_Mo_185 im_Mo_wrong se_Mo_wrong rfl (mo_h hl) (by decide) rfl (Nat.le_of_ble_eq_true rfl) rfl rfl ?_
      refine mj_fg 1 (L' := [some (.ref 27), none, some (.int x2), none, none, none, none]) rfl ?_
      refine mj_fg 2 (L' := [some (.ref 27), none, none, none, none, none, none]) rfl ?_
      exact tj_unpack_194 hl hk
noncomputable def r_unpack (x1 : Int32) (x2 : Int32) (g : mo_G) : Option mo_G := l_unpack_5 (fun y11 y12 g10 => j_unpack_173 y11 y12 g10) 2000 x1 x2 (upd g.1 6 0, g.2)
set_option maxRecDepth 100000 in
set_option maxHeartbeats 4000000 in
theorem tm_unpack {h : mj_H} {r : mo_G} (hl : 39 < h.length) {x1 : Int32} {x2 : Int32} {g : mo_G} (hk : r_unpack x1 x2 g = some r) : mj_Met M_Mo_unpack (1, 22, none) 0 0 [.ref 27, .int x1, .int x2] (mo_up h g) (mj_q none (mo_up h r)) := by
  unfold r_unpack at hk
  refine mj_enter (r := 4) rfl rfl (by decide) rfl ?_
  show mj_W M_Mo_unpack _ _ _ _ 0 [some (.ref 27), some (.int x1), some (.int x2), none, none, none, none] [] (mo_up h g)
  refine mj_aload_n d_Mo_unpack_0 rfl ?_
  refine mj_iconst (v := 0) d_Mo_unpack_1 (by decide) ?_
  refine mj_put ok_Mo (k := 18) (by decide) fl_Mo_110 rfl (fun _ => rfl) (fun _ => rfl) (Nat.le_of_ble_eq_true rfl) d_Mo_unpack_2 (mo_h hl) ?_
  refine mj_hp (h1 := mo_up h (upd g.1 6 0, g.2)) (mo_p6 (g := g) hl 0) ?_
  refine tl_unpack_5 hl ?_ 2000 _ _ _ hk
  intro y11 y12 g10 hk
  exact tj_unpack_173 hl hk
noncomputable def r_outOf (x0 : Int32) (x1 : Int32) (x2 : Int32) : Option Int32 := if x2 = 0 then (some ((((x0 - (x1 / 2))) &&& 65535))) else (some ((((((x1 + ((((x0 - (x1 / 2))) &&& 65535)))) - 32768)) &&& 65535)))
set_option maxRecDepth 100000 in
set_option maxHeartbeats 4000000 in
theorem tm_outOf {h : mj_H} {r : Int32} {x0 : Int32} {x1 : Int32} {x2 : Int32} (hk : r_outOf x0 x1 x2 = some r) : mj_Met M_Mo_outOf (0, 0, none) 0 0 [.int x0, .int x1, .int x2] h (mj_q (some (.int r)) h) := by
  unfold r_outOf at hk
  refine mj_enter (r := 1) rfl rfl (by decide) rfl ?_
  show mj_W M_Mo_outOf _ _ _ _ 0 [some (.int x0), some (.int x1), some (.int x2), none] [] h
  refine mj_iload_n d_Mo_outOf_0 rfl ?_
  refine mj_iload_n d_Mo_outOf_1 rfl ?_
  refine mj_iconst (v := 2) d_Mo_outOf_2 (by decide) ?_
  refine mj_idiv d_Mo_outOf_3 (by decide) ?_
  refine mj_isub d_Mo_outOf_4 ?_
  refine mj_ldc d_Mo_outOf_5 k_Mo_72 ?_
  refine mj_iand d_Mo_outOf_7 ?_
  refine mj_istore_n (L' := [some (.int x0), some (.int x1), some (.int x2), some (.int (((x0 - (x1 / 2))) &&& 65535))]) d_Mo_outOf_8 (by decide) rfl rfl ?_
  refine mj_iload_n d_Mo_outOf_9 rfl ?_
  refine mj_if_eq (tgt := 25) d_Mo_outOf_10 (by decide) (fun c_10 => ?_) (fun c_10 => ?_)
  · replace hk := og_pos c_10 hk
    refine mj_iload_n d_Mo_outOf_25 rfl ?_
    cases hk
    exact mj_iret rfl d_Mo_outOf_26 ⟨rfl, rfl⟩
  · replace hk := og_neg c_10 hk
    refine mj_iload_n d_Mo_outOf_13 rfl ?_
    refine mj_iload_n d_Mo_outOf_14 rfl ?_
    refine mj_iadd d_Mo_outOf_15 ?_
    refine mj_ldc d_Mo_outOf_16 k_Mo_81 ?_
    refine mj_isub d_Mo_outOf_18 ?_
    refine mj_ldc d_Mo_outOf_19 k_Mo_72 ?_
    refine mj_iand d_Mo_outOf_21 ?_
    refine mj_goto (tgt := 26) d_Mo_outOf_22 (by decide) ?_
    cases hk
    exact mj_iret rfl d_Mo_outOf_26 ⟨rfl, rfl⟩
noncomputable def l_unwave_14 (K : Int32 → Int32 → Int32 → Int32 → mo_G → Option mo_G) : Nat → Int32 → Int32 → Int32 → Int32 → Int32 → mo_G → Option mo_G
  | 0, _, _, _, _, _, _ => none
  | n + 1, x1, x2, x3, x4, x5, g => if x1 ≤ (x5 + x3) then (K x1 x2 x3 x4 g) else (og (vp_in (((8 * x4) + x5) : Int32) 64) (og (vp_in (((((8 * x4) + x5)) + (8 * x3)) : Int32) 64) ((r_outOf (((g.2 11) (((8 * x4) + x5) : Int32).toNatClampNeg)) (((g.2 11) (((((8 * x4) + x5)) + (8 * x3)) : Int32).toNatClampNeg)) 1).bind (fun z3 => og (vp_in (((8 * x4) + x5) : Int32) 64) (og (vp_in (((((8 * x4) + x5)) + (8 * x3)) : Int32) 64) ((r_outOf (((g.2 11) (((8 * x4) + x5) : Int32).toNatClampNeg)) (((g.2 11) (((((8 * x4) + x5)) + (8 * x3)) : Int32).toNatClampNeg)) 0).bind (fun z6 => og (vp_in (((((8 * x4) + x5)) + x3) : Int32) 64) (og (vp_in (((((((8 * x4) + x5)) + (8 * x3))) + x3) : Int32) 64) ((r_outOf (((g.2 11) (((((8 * x4) + x5)) + x3) : Int32).toNatClampNeg)) (((g.2 11) (((((((8 * x4) + x5)) + (8 * x3))) + x3) : Int32).toNatClampNeg)) 1).bind (fun z9 => og (vp_in (((((8 * x4) + x5)) + x3) : Int32) 64) (og (vp_in (((((((8 * x4) + x5)) + (8 * x3))) + x3) : Int32) 64) ((r_outOf (((g.2 11) (((((8 * x4) + x5)) + x3) : Int32).toNatClampNeg)) (((g.2 11) (((((((8 * x4) + x5)) + (8 * x3))) + x3) : Int32).toNatClampNeg)) 0).bind (fun z12 => (r_outOf z3 z9 1).bind (fun z13 => og (vp_in (((8 * x4) + x5) : Int32) 64) ((r_outOf z3 z9 0).bind (fun z15 => og (vp_in (((((8 * x4) + x5)) + x3) : Int32) 64) ((r_outOf z6 z12 1).bind (fun z17 => og (vp_in (((((8 * x4) + x5)) + (8 * x3)) : Int32) 64) ((r_outOf z6 z12 0).bind (fun z19 => og (vp_in (((((((8 * x4) + x5)) + (8 * x3))) + x3) : Int32) 64) ((fun x1 x2 x3 x4 x5 g => l_unwave_14 K n x1 x2 x3 x4 x5 g) x1 x2 x3 x4 ((x5 + (2 * x3))) (g.1, mo_uA g.2 11 (upd (upd (upd (upd (g.2 11) (((8 * x4) + x5) : Int32).toNatClampNeg z13) (((((8 * x4) + x5)) + x3) : Int32).toNatClampNeg z15) (((((8 * x4) + x5)) + (8 * x3)) : Int32).toNatClampNeg z17) (((((((8 * x4) + x5)) + (8 * x3))) + x3) : Int32).toNatClampNeg z19)))))))))))))))))))))))
set_option maxRecDepth 100000 in
set_option maxHeartbeats 4000000 in
theorem tl_unwave_14 {h : mj_H} {r : mo_G} (hl : 39 < h.length) {K : Int32 → Int32 → Int32 → Int32 → mo_G → Option mo_G} (hK : (∀ (x1 : Int32) (x2 : Int32) (x3 : Int32) (x4 : Int32) (g : mo_G), K x1 x2 x3 x4 g = some r → mj_W M_Mo_unwave (mj_q none (mo_up h r)) (1, 23, none) 0 0 204 [some (.ref 27), some (.int x1), some (.int x2), some (.int x3), some (.int x4), none, none, none, none, none, none, none] [] (mo_up h g))) : ∀ (n : Nat) (x1 : Int32) (x2 : Int32) (x3 : Int32) (x4 : Int32) (x5 : Int32) (g : mo_G), l_unwave_14 K n x1 x2 x3 x4 x5 g = some r → mj_W M_Mo_unwave (mj_q none (mo_up h r)) (1, 23, none) 0 0 14 [some (.ref 27), some (.int x1), some (.int x2), some (.int x3), some (.int x4), some (.int x5), none, none, none, none, none, none] [] (mo_up h g) := by
  intro n
  induction n with
  | zero =>
    intro x1 x2 x3 x4 x5 g hk
    cases hk
  | succ n hbk =>
    intro x1 x2 x3 x4 x5 g hk
    rw [l_unwave_14] at hk
    refine mj_iload d_Mo_unwave_14 rfl ?_
    refine mj_iload_n d_Mo_unwave_16 rfl ?_
    refine mj_iadd d_Mo_unwave_17 ?_
    refine mj_iload_n d_Mo_unwave_18 rfl ?_
    refine mj_icmp_ge (tgt := 204) d_Mo_unwave_19 (by decide) (fun c_19 => ?_) (fun c_19 => ?_)
    · replace hk := og_pos c_19 hk
      refine mj_fg 5 (L' := [some (.ref 27), some (.int x1), some (.int x2), some (.int x3), some (.int x4), none, none, none, none, none, none, none]) rfl ?_
      exact hK _ _ _ _ _ hk
    · replace hk := og_neg c_19 hk
      refine mj_bipush (v := 8) d_Mo_unwave_22 (by decide) ?_
      refine mj_iload d_Mo_unwave_24 rfl ?_
      refine mj_imul d_Mo_unwave_26 ?_
      refine mj_iload d_Mo_unwave_27 rfl ?_
      refine mj_iadd d_Mo_unwave_29 ?_
      refine mj_istore (L' := [some (.ref 27), some (.int x1), some (.int x2), some (.int x3), some (.int x4), some (.int x5), some (.int ((8 * x4) + x5)), none, none, none, none, none]) d_Mo_unwave_30 (by decide) rfl rfl ?_
      refine mj_iload d_Mo_unwave_32 rfl ?_
      refine mj_bipush (v := 8) d_Mo_unwave_34 (by decide) ?_
      refine mj_iload_n d_Mo_unwave_36 rfl ?_
      refine mj_imul d_Mo_unwave_37 ?_
      refine mj_iadd d_Mo_unwave_38 ?_
      refine mj_istore (L' := [some (.ref 27), some (.int x1), some (.int x2), some (.int x3), some (.int x4), some (.int x5), some (.int ((8 * x4) + x5)), some (.int ((((8 * x4) + x5)) + (8 * x3))), none, none, none, none]) d_Mo_unwave_39 (by decide) rfl rfl ?_
      refine mj_aload_n d_Mo_unwave_41 rfl ?_
      refine mj_get ok_Mo (k := 17) (v := .ref 39) (by decide) fl_Mo_56 d_Mo_unwave_42 (mo_h hl) rfl ?_
      refine mj_iload d_Mo_unwave_45 rfl ?_
      have q1 := og_1 hk
      replace hk := og_2 hk
      refine mj_iald (f := (g.2 11)) d_Mo_unwave_47 (mo_a11 hl) q1 ?_
      refine mj_aload_n d_Mo_unwave_48 rfl ?_
      refine mj_get ok_Mo (k := 17) (v := .ref 39) (by decide) fl_Mo_56 d_Mo_unwave_49 (mo_h hl) rfl ?_
      refine mj_iload d_Mo_unwave_52 rfl ?_
      have q2 := og_1 hk
      replace hk := og_2 hk
      refine mj_iald (f := (g.2 11)) d_Mo_unwave_54 (mo_a11 hl) q2 ?_
      refine mj_iconst (v := 1) d_Mo_unwave_55 (by decide) ?_
      obtain ⟨z3, hz3, hk⟩ := og_b hk
      refine mj_cS (S := []) (S1 := [.int z3]) (tm_outOf hz3) d_Mo_unwave_56 cw_Mo_outOf ml_Mo_128 st_Mo_outOf (by decide) rfl (Nat.le_of_ble_eq_true rfl) rfl rfl ?_
      refine mj_istore (L' := [some (.ref 27), some (.int x1), some (.int x2), some (.int x3), some (.int x4), some (.int x5), some (.int ((8 * x4) + x5)), some (.int ((((8 * x4) + x5)) + (8 * x3))), some (.int z3), none, none, none]) d_Mo_unwave_59 (by decide) rfl rfl ?_
      refine mj_aload_n d_Mo_unwave_61 rfl ?_
      refine mj_get ok_Mo (k := 17) (v := .ref 39) (by decide) fl_Mo_56 d_Mo_unwave_62 (mo_h hl) rfl ?_
      refine mj_iload d_Mo_unwave_65 rfl ?_
      have q4 := og_1 hk
      replace hk := og_2 hk
      refine mj_iald (f := (g.2 11)) d_Mo_unwave_67 (mo_a11 hl) q4 ?_
      refine mj_aload_n d_Mo_unwave_68 rfl ?_
      refine mj_get ok_Mo (k := 17) (v := .ref 39) (by decide) fl_Mo_56 d_Mo_unwave_69 (mo_h hl) rfl ?_
      refine mj_iload d_Mo_unwave_72 rfl ?_
      have q5 := og_1 hk
      replace hk := og_2 hk
      refine mj_iald (f := (g.2 11)) d_Mo_unwave_74 (mo_a11 hl) q5 ?_
      refine mj_iconst (v := 0) d_Mo_unwave_75 (by decide) ?_
      obtain ⟨z6, hz6, hk⟩ := og_b hk
      refine mj_cS (S := []) (S1 := [.int z6]) (tm_outOf hz6) d_Mo_unwave_76 cw_Mo_outOf ml_Mo_128 st_Mo_outOf (by decide) rfl (Nat.le_of_ble_eq_true rfl) rfl rfl ?_
      refine mj_istore (L' := [some (.ref 27), some (.int x1), some (.int x2), some (.int x3), some (.int x4), some (.int x5), some (.int ((8 * x4) + x5)), some (.int ((((8 * x4) + x5)) + (8 * x3))), some (.int z3), some (.int z6), none, none]) d_Mo_unwave_79 (by decide) rfl rfl ?_
      refine mj_aload_n d_Mo_unwave_81 rfl ?_
      refine mj_get ok_Mo (k := 17) (v := .ref 39) (by decide) fl_Mo_56 d_Mo_unwave_82 (mo_h hl) rfl ?_
      refine mj_iload d_Mo_unwave_85 rfl ?_
      refine mj_iload_n d_Mo_unwave_87 rfl ?_
      refine mj_iadd d_Mo_unwave_88 ?_
      have q7 := og_1 hk
      replace hk := og_2 hk
      refine mj_iald (f := (g.2 11)) d_Mo_unwave_89 (mo_a11 hl) q7 ?_
      refine mj_aload_n d_Mo_unwave_90 rfl ?_
      refine mj_get ok_Mo (k := 17) (v := .ref 39) (by decide) fl_Mo_56 d_Mo_unwave_91 (mo_h hl) rfl ?_
      refine mj_iload d_Mo_unwave_94 rfl ?_
      refine mj_iload_n d_Mo_unwave_96 rfl ?_
      refine mj_iadd d_Mo_unwave_97 ?_
      have q8 := og_1 hk
      replace hk := og_2 hk
      refine mj_iald (f := (g.2 11)) d_Mo_unwave_98 (mo_a11 hl) q8 ?_
      refine mj_iconst (v := 1) d_Mo_unwave_99 (by decide) ?_
      obtain ⟨z9, hz9, hk⟩ := og_b hk
      refine mj_cS (S := []) (S1 := [.int z9]) (tm_outOf hz9) d_Mo_unwave_100 cw_Mo_outOf ml_Mo_128 st_Mo_outOf (by decide) rfl (Nat.le_of_ble_eq_true rfl) rfl rfl ?_
      refine mj_istore (L' := [some (.ref 27), some (.int x1), some (.int x2), some (.int x3), some (.int x4), some (.int x5), some (.int ((8 * x4) + x5)), some (.int ((((8 * x4) + x5)) + (8 * x3))), some (.int z3), some (.int z6), some (.int z9), none]) d_Mo_unwave_103 (by decide) rfl rfl ?_
      refine mj_aload_n d_Mo_unwave_105 rfl ?_
      refine mj_get ok_Mo (k := 17) (v := .ref 39) (by decide) fl_Mo_56 d_Mo_unwave_106 (mo_h hl) rfl ?_
      refine mj_iload d_Mo_unwave_109 rfl ?_
      refine mj_iload_n d_Mo_unwave_111 rfl ?_
      refine mj_iadd d_Mo_unwave_112 ?_
      have q10 := og_1 hk
      replace hk := og_2 hk
      refine mj_iald (f := (g.2 11)) d_Mo_unwave_113 (mo_a11 hl) q10 ?_
      refine mj_aload_n d_Mo_unwave_114 rfl ?_
      refine mj_get ok_Mo (k := 17) (v := .ref 39) (by decide) fl_Mo_56 d_Mo_unwave_115 (mo_h hl) rfl ?_
      refine mj_iload d_Mo_unwave_118 rfl ?_
      refine mj_iload_n d_Mo_unwave_120 rfl ?_
      refine mj_iadd d_Mo_unwave_121 ?_
      have q11 := og_1 hk
      replace hk := og_2 hk
      refine mj_iald (f := (g.2 11)) d_Mo_unwave_122 (mo_a11 hl) q11 ?_
      refine mj_iconst (v := 0) d_Mo_unwave_123 (by decide) ?_
      obtain ⟨z12, hz12, hk⟩ := og_b hk
      refine mj_cS (S := []) (S1 := [.int z12]) (tm_outOf hz12) d_Mo_unwave_124 cw_Mo_outOf ml_Mo_128 st_Mo_outOf (by decide) rfl (Nat.le_of_ble_eq_true rfl) rfl rfl ?_
      refine mj_istore (L' := [some (.ref 27), some (.int x1), some (.int x2), some (.int x3), some (.int x4), some (.int x5), some (.int ((8 * x4) + x5)), some (.int ((((8 * x4) + x5)) + (8 * x3))), some (.int z3), some (.int z6), some (.int z9), some (.int z12)]) d_Mo_unwave_127 (by decide) rfl rfl ?_
      refine mj_aload_n d_Mo_unwave_129 rfl ?_
      refine mj_get ok_Mo (k := 17) (v := .ref 39) (by decide) fl_Mo_56 d_Mo_unwave_130 (mo_h hl) rfl ?_
      refine mj_iload d_Mo_unwave_133 rfl ?_
      refine mj_iload d_Mo_unwave_135 rfl ?_
      refine mj_iload d_Mo_unwave_137 rfl ?_
      refine mj_iconst (v := 1) d_Mo_unwave_139 (by decide) ?_
      obtain ⟨z13, hz13, hk⟩ := og_b hk
      refine mj_cS (S := [.int ((8 * x4) + x5), .ref 39]) (S1 := [.int z13, .int ((8 * x4) + x5), .ref 39]) (tm_outOf hz13) d_Mo_unwave_140 cw_Mo_outOf ml_Mo_128 st_Mo_outOf (by decide) rfl (Nat.le_of_ble_eq_true rfl) rfl rfl ?_
      have q14 := og_1 hk
      replace hk := og_2 hk
      refine mj_iast (f := (g.2 11)) d_Mo_unwave_143 (mo_a11 hl) q14 ?_
      refine mj_hp (h1 := mo_up h (g.1, mo_uA g.2 11 (upd (g.2 11) (((8 * x4) + x5) : Int32).toNatClampNeg z13))) (mo_b11 (g := g) hl (upd (g.2 11) (((8 * x4) + x5) : Int32).toNatClampNeg z13)) ?_
      refine mj_aload_n d_Mo_unwave_144 rfl ?_
      refine mj_get ok_Mo (k := 17) (v := .ref 39) (by decide) fl_Mo_56 d_Mo_unwave_145 (mo_h hl) rfl ?_
      refine mj_iload d_Mo_unwave_148 rfl ?_
      refine mj_iload_n d_Mo_unwave_150 rfl ?_
      refine mj_iadd d_Mo_unwave_151 ?_
      refine mj_iload d_Mo_unwave_152 rfl ?_
      refine mj_iload d_Mo_unwave_154 rfl ?_
      refine mj_iconst (v := 0) d_Mo_unwave_156 (by decide) ?_
      obtain ⟨z15, hz15, hk⟩ := og_b hk
      refine mj_cS (S := [.int ((((8 * x4) + x5)) + x3), .ref 39]) (S1 := [.int z15, .int ((((8 * x4) + x5)) + x3), .ref 39]) (tm_outOf hz15) d_Mo_unwave_157 cw_Mo_outOf ml_Mo_128 st_Mo_outOf (by decide) rfl (Nat.le_of_ble_eq_true rfl) rfl rfl ?_
      have q16 := og_1 hk
      replace hk := og_2 hk
      refine mj_iast (f := upd (g.2 11) (((8 * x4) + x5) : Int32).toNatClampNeg z13) d_Mo_unwave_160 (mo_a11 hl) q16 ?_
      refine mj_hp (h1 := mo_up h (g.1, mo_uA g.2 11 (upd (upd (g.2 11) (((8 * x4) + x5) : Int32).toNatClampNeg z13) (((((8 * x4) + x5)) + x3) : Int32).toNatClampNeg z15))) (mo_b11 (g := (g.1, mo_uA g.2 11 (upd (g.2 11) (((8 * x4) + x5) : Int32).toNatClampNeg z13))) hl (upd (upd (g.2 11) (((8 * x4) + x5) : Int32).toNatClampNeg z13) (((((8 * x4) + x5)) + x3) : Int32).toNatClampNeg z15)) ?_
      refine mj_aload_n d_Mo_unwave_161 rfl ?_
      refine mj_get ok_Mo (k := 17) (v := .ref 39) (by decide) fl_Mo_56 d_Mo_unwave_162 (mo_h hl) rfl ?_
      refine mj_iload d_Mo_unwave_165 rfl ?_
      refine mj_iload d_Mo_unwave_167 rfl ?_
      refine mj_iload d_Mo_unwave_169 rfl ?_
      refine mj_iconst (v := 1) d_Mo_unwave_171 (by decide) ?_
      obtain ⟨z17, hz17, hk⟩ := og_b hk
      refine mj_cS (S := [.int ((((8 * x4) + x5)) + (8 * x3)), .ref 39]) (S1 := [.int z17, .int ((((8 * x4) + x5)) + (8 * x3)), .ref 39]) (tm_outOf hz17) d_Mo_unwave_172 cw_Mo_outOf ml_Mo_128 st_Mo_outOf (by decide) rfl (Nat.le_of_ble_eq_true rfl) rfl rfl ?_
      have q18 := og_1 hk
      replace hk := og_2 hk
      refine mj_iast (f := upd (upd (g.2 11) (((8 * x4) + x5) : Int32).toNatClampNeg z13) (((((8 * x4) + x5)) + x3) : Int32).toNatClampNeg z15) d_Mo_unwave_175 (mo_a11 hl) q18 ?_
      refine mj_hp (h1 := mo_up h (g.1, mo_uA g.2 11 (upd (upd (upd (g.2 11) (((8 * x4) + x5) : Int32).toNatClampNeg z13) (((((8 * x4) + x5)) + x3) : Int32).toNatClampNeg z15) (((((8 * x4) + x5)) + (8 * x3)) : Int32).toNatClampNeg z17))) (mo_b11 (g := (g.1, mo_uA g.2 11 (upd (upd (g.2 11) (((8 * x4) + x5) : Int32).toNatClampNeg z13) (((((8 * x4) + x5)) + x3) : Int32).toNatClampNeg z15))) hl (upd (upd (upd (g.2 11) (((8 * x4) + x5) : Int32).toNatClampNeg z13) (((((8 * x4) + x5)) + x3) : Int32).toNatClampNeg z15) (((((8 * x4) + x5)) + (8 * x3)) : Int32).toNatClampNeg z17)) ?_
      refine mj_aload_n d_Mo_unwave_176 rfl ?_
      refine mj_get ok_Mo (k := 17) (v := .ref 39) (by decide) fl_Mo_56 d_Mo_unwave_177 (mo_h hl) rfl ?_
      refine mj_iload d_Mo_unwave_180 rfl ?_
      refine mj_iload_n d_Mo_unwave_182 rfl ?_
      refine mj_iadd d_Mo_unwave_183 ?_
      refine mj_iload d_Mo_unwave_184 rfl ?_
      refine mj_iload d_Mo_unwave_186 rfl ?_
      refine mj_iconst (v := 0) d_Mo_unwave_188 (by decide) ?_
      obtain ⟨z19, hz19, hk⟩ := og_b hk
      refine mj_cS (S := [.int ((((((8 * x4) + x5)) + (8 * x3))) + x3), .ref 39]) (S1 := [.int z19, .int ((((((8 * x4) + x5)) + (8 * x3))) + x3), .ref 39]) (tm_outOf hz19) d_Mo_unwave_189 cw_Mo_outOf ml_Mo_128 st_Mo_outOf (by decide) rfl (Nat.le_of_ble_eq_true rfl) rfl rfl ?_
      have q20 := og_1 hk
      replace hk := og_2 hk
      refine mj_iast (f := upd (upd (upd (g.2 11) (((8 * x4) + x5) : Int32).toNatClampNeg z13) (((((8 * x4) + x5)) + x3) : Int32).toNatClampNeg z15) (((((8 * x4) + x5)) + (8 * x3)) : Int32).toNatClampNeg z17) d_Mo_unwave_192 (mo_a11 hl) q20 ?_
      refine mj_hp (h1 := mo_up h (g.1, mo_uA g.2 11 (upd (upd (upd (upd (g.2 11) (((8 * x4) + x5) : Int32).toNatClampNeg z13) (((((8 * x4) + x5)) + x3) : Int32).toNatClampNeg z15) (((((8 * x4) + x5)) + (8 * x3)) : Int32).toNatClampNeg z17) (((((((8 * x4) + x5)) + (8 * x3))) + x3) : Int32).toNatClampNeg z19))) (mo_b11 (g := (g.1, mo_uA g.2 11 (upd (upd (upd (g.2 11) (((8 * x4) + x5) : Int32).toNatClampNeg z13) (((((8 * x4) + x5)) + x3) : Int32).toNatClampNeg z15) (((((8 * x4) + x5)) + (8 * x3)) : Int32).toNatClampNeg z17))) hl (upd (upd (upd (upd (g.2 11) (((8 * x4) + x5) : Int32).toNatClampNeg z13) (((((8 * x4) + x5)) + x3) : Int32).toNatClampNeg z15) (((((8 * x4) + x5)) + (8 * x3)) : Int32).toNatClampNeg z17) (((((((8 * x4) + x5)) + (8 * x3))) + x3) : Int32).toNatClampNeg z19)) ?_
      refine mj_iload d_Mo_unwave_193 rfl ?_
      refine mj_iconst (v := 2) d_Mo_unwave_195 (by decide) ?_
      refine mj_iload_n d_Mo_unwave_196 rfl ?_
      refine mj_imul d_Mo_unwave_197 ?_
      refine mj_iadd d_Mo_unwave_198 ?_
      refine mj_istore (L' := [some (.ref 27), some (.int x1), some (.int x2), some (.int x3), some (.int x4), some (.int (x5 + (2 * x3))), some (.int ((8 * x4) + x5)), some (.int ((((8 * x4) + x5)) + (8 * x3))), some (.int z3), some (.int z6), some (.int z9), some (.int z12)]) d_Mo_unwave_199 (by decide) rfl rfl ?_
      refine mj_goto (tgt := 14) d_Mo_unwave_201 (by decide) ?_
      refine mj_fg 6 (L' := [some (.ref 27), some (.int x1), some (.int x2), some (.int x3), some (.int x4), some (.int (x5 + (2 * x3))), none, some (.int ((((8 * x4) + x5)) + (8 * x3))), some (.int z3), some (.int z6), some (.int z9), some (.int z12)]) rfl ?_
      refine mj_fg 7 (L' := [some (.ref 27), some (.int x1), some (.int x2), some (.int x3), some (.int x4), some (.int (x5 + (2 * x3))), none, none, some (.int z3), some (.int z6), some (.int z9), some (.int z12)]) rfl ?_
      refine mj_fg 8 (L' := [some (.ref 27), some (.int x1), some (.int x2), some (.int x3), some (.int x4), some (.int (x5 + (2 * x3))), none, none, none, some (.int z6), some (.int z9), some (.int z12)]) rfl ?_
      refine mj_fg 9 (L' := [some (.ref 27), some (.int x1), some (.int x2), some (.int x3), some (.int x4), some (.int (x5 + (2 * x3))), none, none, none, none, some (.int z9), some (.int z12)]) rfl ?_
      refine mj_fg 10 (L' := [some (.ref 27), some (.int x1), some (.int x2), some (.int x3), some (.int x4), some (.int (x5 + (2 * x3))), none, none, none, none, none, some (.int z12)]) rfl ?_
      refine mj_fg 11 (L' := [some (.ref 27), some (.int x1), some (.int x2), some (.int x3), some (.int x4), some (.int (x5 + (2 * x3))), none, none, none, none, none, none]) rfl ?_
      exact hbk _ _ _ _ _ _ hk
noncomputable def l_unwave_3 (K : mo_G → Option mo_G) : Nat → Int32 → Int32 → Int32 → Int32 → mo_G → Option mo_G
  | 0, _, _, _, _, _ => none
  | n + 1, x1, x2, x3, x4, g => if x2 ≤ (x4 + x3) then (K g) else (l_unwave_14 (fun y22 y23 y24 y25 g21 => (fun x1 x2 x3 x4 g => l_unwave_3 K n x1 x2 x3 x4 g) y22 y23 y24 ((y25 + (2 * y24))) g21) 2000 x1 x2 x3 x4 0 g)
set_option maxRecDepth 100000 in
set_option maxHeartbeats 4000000 in
theorem tl_unwave_3 {h : mj_H} {r : mo_G} (hl : 39 < h.length) {K : mo_G → Option mo_G} (hK : (∀ (g : mo_G), K g = some r → mj_W M_Mo_unwave (mj_q none (mo_up h r)) (1, 23, none) 0 0 215 [some (.ref 27), none, none, none, none, none, none, none, none, none, none, none] [] (mo_up h g))) : ∀ (n : Nat) (x1 : Int32) (x2 : Int32) (x3 : Int32) (x4 : Int32) (g : mo_G), l_unwave_3 K n x1 x2 x3 x4 g = some r → mj_W M_Mo_unwave (mj_q none (mo_up h r)) (1, 23, none) 0 0 3 [some (.ref 27), some (.int x1), some (.int x2), some (.int x3), some (.int x4), none, none, none, none, none, none, none] [] (mo_up h g) := by
  intro n
  induction n with
  | zero =>
    intro x1 x2 x3 x4 g hk
    cases hk
  | succ n hbk =>
    intro x1 x2 x3 x4 g hk
    rw [l_unwave_3] at hk
    refine mj_iload d_Mo_unwave_3 rfl ?_
    refine mj_iload_n d_Mo_unwave_5 rfl ?_
    refine mj_iadd d_Mo_unwave_6 ?_
    refine mj_iload_n d_Mo_unwave_7 rfl ?_
    refine mj_icmp_ge (tgt := 215) d_Mo_unwave_8 (by decide) (fun c_8 => ?_) (fun c_8 => ?_)
    · replace hk := og_pos c_8 hk
      refine mj_fg 1 (L' := [some (.ref 27), none, some (.int x2), some (.int x3), some (.int x4), none, none, none, none, none, none, none]) rfl ?_
      refine mj_fg 2 (L' := [some (.ref 27), none, none, some (.int x3), some (.int x4), none, none, none, none, none, none, none]) rfl ?_
      refine mj_fg 3 (L' := [some (.ref 27), none, none, none, some (.int x4), none, none, none, none, none, none, none]) rfl ?_
      refine mj_fg 4 (L' := [some (.ref 27), none, none, none, none, none, none, none, none, none, none, none]) rfl ?_
      exact hK _ hk
    · replace hk := og_neg c_8 hk
      refine mj_iconst (v := 0) d_Mo_unwave_11 (by decide) ?_
      refine mj_istore (L' := [some (.ref 27), some (.int x1), some (.int x2), some (.int x3), some (.int x4), some (.int 0), none, none, none, none, none, none]) d_Mo_unwave_12 (by decide) rfl rfl ?_
      refine tl_unwave_14 hl ?_ 2000 _ _ _ _ _ _ hk
      intro y22 y23 y24 y25 g21 hk
      refine mj_iload d_Mo_unwave_204 rfl ?_
      refine mj_iconst (v := 2) d_Mo_unwave_206 (by decide) ?_
      refine mj_iload_n d_Mo_unwave_207 rfl ?_
      refine mj_imul d_Mo_unwave_208 ?_
      refine mj_iadd d_Mo_unwave_209 ?_
      refine mj_istore (L' := [some (.ref 27), some (.int y22), some (.int y23), some (.int y24), some (.int (y25 + (2 * y24))), none, none, none, none, none, none, none]) d_Mo_unwave_210 (by decide) rfl rfl ?_
      refine mj_goto (tgt := 3) d_Mo_unwave_212 (by decide) ?_
      exact hbk _ _ _ _ _ hk
noncomputable def r_unwave (x1 : Int32) (x2 : Int32) (x3 : Int32) (g : mo_G) : Option mo_G := l_unwave_3 (fun  g26 => some g26) 2000 x1 x2 x3 0 g
set_option maxRecDepth 100000 in
set_option maxHeartbeats 4000000 in
theorem tm_unwave {h : mj_H} {r : mo_G} (hl : 39 < h.length) {x1 : Int32} {x2 : Int32} {x3 : Int32} {g : mo_G} (hk : r_unwave x1 x2 x3 g = some r) : mj_Met M_Mo_unwave (1, 23, none) 0 0 [.ref 27, .int x1, .int x2, .int x3] (mo_up h g) (mj_q none (mo_up h r)) := by
  unfold r_unwave at hk
  refine mj_enter (r := 8) rfl rfl (by decide) rfl ?_
  show mj_W M_Mo_unwave _ _ _ _ 0 [some (.ref 27), some (.int x1), some (.int x2), some (.int x3), none, none, none, none, none, none, none, none] [] (mo_up h g)
  refine mj_iconst (v := 0) d_Mo_unwave_0 (by decide) ?_
  refine mj_istore (L' := [some (.ref 27), some (.int x1), some (.int x2), some (.int x3), some (.int 0), none, none, none, none, none, none, none]) d_Mo_unwave_1 (by decide) rfl rfl ?_
  refine tl_unwave_3 hl ?_ 2000 _ _ _ _ _ hk
  intro  g26 hk
  cases hk
  exact mj_vret rfl d_Mo_unwave_215 ⟨rfl, rfl⟩
noncomputable def l_unwaves_79 (K : Int32 → Int32 → Int32 → Int32 → Int32 → Int32 → Int32 → mo_G → Option mo_G) : Nat → Int32 → Int32 → Int32 → Int32 → Int32 → Int32 → Int32 → Int32 → mo_G → Option mo_G
  | 0, _, _, _, _, _, _, _, _, _ => none
  | n + 1, x1, x2, x3, x4, x5, x6, x7, x8, g => if x4 ≤ x8 then (K x1 x2 x3 x4 x5 x6 x7 g) else ((r_take 2 g).bind (fun z6 => og (vp_in (((8 * x7) + x8) : Int32) 64) ((fun x1 x2 x3 x4 x5 x6 x7 x8 g => l_unwaves_79 K n x1 x2 x3 x4 x5 x6 x7 x8 g) x1 x2 x3 x4 x5 x6 x7 (x8 + 1) (z6.2.1, mo_uA z6.2.2 11 (upd (z6.2.2 11) (((8 * x7) + x8) : Int32).toNatClampNeg z6.1)))))
set_option maxRecDepth 100000 in
set_option maxHeartbeats 4000000 in
theorem tl_unwaves_79 {h : mj_H} {r : mo_G} (hl : 39 < h.length) {K : Int32 → Int32 → Int32 → Int32 → Int32 → Int32 → Int32 → mo_G → Option mo_G} (hK : (∀ (x1 : Int32) (x2 : Int32) (x3 : Int32) (x4 : Int32) (x5 : Int32) (x6 : Int32) (x7 : Int32) (g : mo_G), K x1 x2 x3 x4 x5 x6 x7 g = some r → mj_W M_Mo_unwaves (mj_q none (mo_up h r)) (2, 54, none) 0 0 110 [some (.ref 27), some (.int x1), some (.int x2), some (.int x3), some (.int x4), some (.int x5), some (.int x6), some (.int x7), none, none, none, none] [] (mo_up h g))) : ∀ (n : Nat) (x1 : Int32) (x2 : Int32) (x3 : Int32) (x4 : Int32) (x5 : Int32) (x6 : Int32) (x7 : Int32) (x8 : Int32) (g : mo_G), l_unwaves_79 K n x1 x2 x3 x4 x5 x6 x7 x8 g = some r → mj_W M_Mo_unwaves (mj_q none (mo_up h r)) (2, 54, none) 0 0 79 [some (.ref 27), some (.int x1), some (.int x2), some (.int x3), some (.int x4), some (.int x5), some (.int x6), some (.int x7), some (.int x8), none, none, none] [] (mo_up h g) := by
  intro n
  induction n with
  | zero =>
    intro x1 x2 x3 x4 x5 x6 x7 x8 g hk
    cases hk
  | succ n hbk =>
    intro x1 x2 x3 x4 x5 x6 x7 x8 g hk
    rw [l_unwaves_79] at hk
    refine mj_iload d_Mo_unwaves_79 rfl ?_
    refine mj_iload d_Mo_unwaves_81 rfl ?_
    refine mj_icmp_ge (tgt := 110) d_Mo_unwaves_83 (by decide) (fun c_83 => ?_) (fun c_83 => ?_)
    · replace hk := og_pos c_83 hk
      refine mj_fg 8 (L' := [some (.ref 27), some (.int x1), some (.int x2), some (.int x3), some (.int x4), some (.int x5), some (.int x6), some (.int x7), none, none, none, none]) rfl ?_
      exact hK _ _ _ _ _ _ _ _ hk
    · replace hk := og_neg c_83 hk
      refine mj_aload_n d_Mo_unwaves_86 rfl ?_
      refine mj_get ok_Mo (k := 17) (v := .ref 39) (by decide) fl_Mo_56 d_Mo_unwaves_87 (mo_h hl) rfl ?_
      refine mj_bipush (v := 8) d_Mo_unwaves_90 (by decide) ?_
      refine mj_iload d_Mo_unwaves_92 rfl ?_
      refine mj_imul d_Mo_unwaves_94 ?_
      refine mj_iload d_Mo_unwaves_95 rfl ?_
      refine mj_iadd d_Mo_unwaves_97 ?_
      refine mj_aload_n d_Mo_unwaves_98 rfl ?_
      refine mj_iconst (v := 2) d_Mo_unwaves_99 (by decide) ?_
      obtain ⟨z6, hz6, hk⟩ := og_b hk
      refine mj_cV (S := [.int ((8 * x7) + x8), .ref 39]) (S1 := [.int z6.1, .int ((8 * x7) + x8), .ref 39]) (tm_take hl hz6) d_Mo_unwaves_100 cw_Mo_take ml_Mo_210 im_Mo_take se_Mo_take rfl (mo_h hl) (by decide) rfl (Nat.le_of_ble_eq_true rfl) rfl rfl ?_
      have q7 := og_1 hk
      replace hk := og_2 hk
      refine mj_iast (f := (z6.2.2 11)) d_Mo_unwaves_103 (mo_a11 hl) q7 ?_
      refine mj_hp (h1 := mo_up h (z6.2.1, mo_uA z6.2.2 11 (upd (z6.2.2 11) (((8 * x7) + x8) : Int32).toNatClampNeg z6.1))) (mo_b11 (g := z6.2) hl (upd (z6.2.2 11) (((8 * x7) + x8) : Int32).toNatClampNeg z6.1)) ?_
      refine mj_iinc (x := x8) (v := x8 + 1) (L' := [some (.ref 27), some (.int x1), some (.int x2), some (.int x3), some (.int x4), some (.int x5), some (.int x6), some (.int x7), some (.int (x8 + 1)), none, none, none]) d_Mo_unwaves_104 rfl rfl (by decide) rfl rfl ?_
      refine mj_goto (tgt := 79) d_Mo_unwaves_107 (by decide) ?_
      exact hbk _ _ _ _ _ _ _ _ _ hk
noncomputable def l_unwaves_69 (K : Int32 → Int32 → Int32 → Int32 → Int32 → Int32 → mo_G → Option mo_G) : Nat → Int32 → Int32 → Int32 → Int32 → Int32 → Int32 → Int32 → mo_G → Option mo_G
  | 0, _, _, _, _, _, _, _, _ => none
  | n + 1, x1, x2, x3, x4, x5, x6, x7, g => if x5 ≤ x7 then (K x1 x2 x3 x4 x5 x6 g) else (l_unwaves_79 (fun y9 y10 y11 y12 y13 y14 y15 g8 => (fun x1 x2 x3 x4 x5 x6 x7 g => l_unwaves_69 K n x1 x2 x3 x4 x5 x6 x7 g) y9 y10 y11 y12 y13 y14 (y15 + 1) g8) 2000 x1 x2 x3 x4 x5 x6 x7 0 g)
set_option maxRecDepth 100000 in
set_option maxHeartbeats 4000000 in
theorem tl_unwaves_69 {h : mj_H} {r : mo_G} (hl : 39 < h.length) {K : Int32 → Int32 → Int32 → Int32 → Int32 → Int32 → mo_G → Option mo_G} (hK : (∀ (x1 : Int32) (x2 : Int32) (x3 : Int32) (x4 : Int32) (x5 : Int32) (x6 : Int32) (g : mo_G), K x1 x2 x3 x4 x5 x6 g = some r → mj_W M_Mo_unwaves (mj_q none (mo_up h r)) (2, 54, none) 0 0 116 [some (.ref 27), some (.int x1), some (.int x2), some (.int x3), some (.int x4), some (.int x5), some (.int x6), none, none, none, none, none] [] (mo_up h g))) : ∀ (n : Nat) (x1 : Int32) (x2 : Int32) (x3 : Int32) (x4 : Int32) (x5 : Int32) (x6 : Int32) (x7 : Int32) (g : mo_G), l_unwaves_69 K n x1 x2 x3 x4 x5 x6 x7 g = some r → mj_W M_Mo_unwaves (mj_q none (mo_up h r)) (2, 54, none) 0 0 69 [some (.ref 27), some (.int x1), some (.int x2), some (.int x3), some (.int x4), some (.int x5), some (.int x6), some (.int x7), none, none, none, none] [] (mo_up h g) := by
  intro n
  induction n with
  | zero =>
    intro x1 x2 x3 x4 x5 x6 x7 g hk
    cases hk
  | succ n hbk =>
    intro x1 x2 x3 x4 x5 x6 x7 g hk
    rw [l_unwaves_69] at hk
    refine mj_iload d_Mo_unwaves_69 rfl ?_
    refine mj_iload d_Mo_unwaves_71 rfl ?_
    refine mj_icmp_ge (tgt := 116) d_Mo_unwaves_73 (by decide) (fun c_73 => ?_) (fun c_73 => ?_)
    · replace hk := og_pos c_73 hk
      refine mj_fg 7 (L' := [some (.ref 27), some (.int x1), some (.int x2), some (.int x3), some (.int x4), some (.int x5), some (.int x6), none, none, none, none, none]) rfl ?_
      exact hK _ _ _ _ _ _ _ hk
    · replace hk := og_neg c_73 hk
      refine mj_iconst (v := 0) d_Mo_unwaves_76 (by decide) ?_
      refine mj_istore (L' := [some (.ref 27), some (.int x1), some (.int x2), some (.int x3), some (.int x4), some (.int x5), some (.int x6), some (.int x7), some (.int 0), none, none, none]) d_Mo_unwaves_77 (by decide) rfl rfl ?_
      refine tl_unwaves_79 hl ?_ 2000 _ _ _ _ _ _ _ _ _ hk
      intro y9 y10 y11 y12 y13 y14 y15 g8 hk
      refine mj_iinc (x := y15) (v := y15 + 1) (L' := [some (.ref 27), some (.int y9), some (.int y10), some (.int y11), some (.int y12), some (.int y13), some (.int y14), some (.int (y15 + 1)), none, none, none, none]) d_Mo_unwaves_110 rfl rfl (by decide) rfl rfl ?_
      refine mj_goto (tgt := 69) d_Mo_unwaves_113 (by decide) ?_
      exact hbk _ _ _ _ _ _ _ _ hk
noncomputable def l_unwaves_119 (K : Int32 → Int32 → Int32 → Int32 → Int32 → Int32 → Int32 → mo_G → Option mo_G) : Nat → Int32 → Int32 → Int32 → Int32 → Int32 → Int32 → Int32 → mo_G → Option mo_G
  | 0, _, _, _, _, _, _, _, _ => none
  | n + 1, x1, x2, x3, x4, x5, x6, x7, g => (r_least x4 x5).bind (fun z23 => if z23 < (4 * x7) then (K x1 x2 x3 x4 x5 x6 x7 g) else ((fun x1 x2 x3 x4 x5 x6 x7 g => l_unwaves_119 K n x1 x2 x3 x4 x5 x6 x7 g) x1 x2 x3 x4 x5 x6 (2 * x7) g))
set_option maxRecDepth 100000 in
set_option maxHeartbeats 4000000 in
theorem tl_unwaves_119 {h : mj_H} {r : mo_G} (hl : 39 < h.length) {K : Int32 → Int32 → Int32 → Int32 → Int32 → Int32 → Int32 → mo_G → Option mo_G} (hK : (∀ (x1 : Int32) (x2 : Int32) (x3 : Int32) (x4 : Int32) (x5 : Int32) (x6 : Int32) (x7 : Int32) (g : mo_G), K x1 x2 x3 x4 x5 x6 x7 g = some r → mj_W M_Mo_unwaves (mj_q none (mo_up h r)) (2, 54, none) 0 0 142 [some (.ref 27), some (.int x1), some (.int x2), some (.int x3), some (.int x4), some (.int x5), some (.int x6), some (.int x7), none, none, none, none] [] (mo_up h g))) : ∀ (n : Nat) (x1 : Int32) (x2 : Int32) (x3 : Int32) (x4 : Int32) (x5 : Int32) (x6 : Int32) (x7 : Int32) (g : mo_G), l_unwaves_119 K n x1 x2 x3 x4 x5 x6 x7 g = some r → mj_W M_Mo_unwaves (mj_q none (mo_up h r)) (2, 54, none) 0 0 119 [some (.ref 27), some (.int x1), some (.int x2), some (.int x3), some (.int x4), some (.int x5), some (.int x6), some (.int x7), none, none, none, none] [] (mo_up h g) := by
  intro n
  induction n with
  | zero =>
    intro x1 x2 x3 x4 x5 x6 x7 g hk
    cases hk
  | succ n hbk =>
    intro x1 x2 x3 x4 x5 x6 x7 g hk
    rw [l_unwaves_119] at hk
    refine mj_iconst (v := 4) d_Mo_unwaves_119 (by decide) ?_
    refine mj_iload d_Mo_unwaves_120 rfl ?_
    refine mj_imul d_Mo_unwaves_122 ?_
    refine mj_iload d_Mo_unwaves_123 rfl ?_
    refine mj_iload d_Mo_unwaves_125 rfl ?_
    obtain ⟨z23, hz23, hk⟩ := og_b hk
    refine mj_cS (S := [.int (4 * x7)]) (S1 := [.int z23, .int (4 * x7)]) (tm_least hz23) d_Mo_unwaves_127 cw_Mo_least ml_Mo_139 st_Mo_least (by decide) rfl (Nat.le_of_ble_eq_true rfl) rfl rfl ?_
    refine mj_icmp_gt (tgt := 142) d_Mo_unwaves_130 (by decide) (fun c_130 => ?_) (fun c_130 => ?_)
    · replace hk := og_pos c_130 hk
      exact hK _ _ _ _ _ _ _ _ hk
    · replace hk := og_neg c_130 hk
      refine mj_iconst (v := 2) d_Mo_unwaves_133 (by decide) ?_
      refine mj_iload d_Mo_unwaves_134 rfl ?_
      refine mj_imul d_Mo_unwaves_136 ?_
      refine mj_istore (L' := [some (.ref 27), some (.int x1), some (.int x2), some (.int x3), some (.int x4), some (.int x5), some (.int x6), some (.int (2 * x7)), none, none, none, none]) d_Mo_unwaves_137 (by decide) rfl rfl ?_
      refine mj_goto (tgt := 119) d_Mo_unwaves_139 (by decide) ?_
      exact hbk _ _ _ _ _ _ _ _ hk
noncomputable def l_unwaves_142 (K : Int32 → Int32 → Int32 → Int32 → Int32 → Int32 → mo_G → Option mo_G) : Nat → Int32 → Int32 → Int32 → Int32 → Int32 → Int32 → Int32 → mo_G → Option mo_G
  | 0, _, _, _, _, _, _, _, _ => none
  | n + 1, x1, x2, x3, x4, x5, x6, x7, g => if x7 ≤ 0 then (K x1 x2 x3 x4 x5 x6 g) else ((r_least x4 x5).bind (fun z32 => if z32 < (2 * x7) then (K x1 x2 x3 x4 x5 x6 g) else ((r_unwave x4 x5 x7 g).bind (fun z33 => (fun x1 x2 x3 x4 x5 x6 x7 g => l_unwaves_142 K n x1 x2 x3 x4 x5 x6 x7 g) x1 x2 x3 x4 x5 x6 (x7 / 2) z33))))
set_option maxRecDepth 100000 in
set_option maxHeartbeats 4000000 in
theorem tl_unwaves_142 {h : mj_H} {r : mo_G} (hl : 39 < h.length) {K : Int32 → Int32 → Int32 → Int32 → Int32 → Int32 → mo_G → Option mo_G} (hK : (∀ (x1 : Int32) (x2 : Int32) (x3 : Int32) (x4 : Int32) (x5 : Int32) (x6 : Int32) (g : mo_G), K x1 x2 x3 x4 x5 x6 g = some r → mj_W M_Mo_unwaves (mj_q none (mo_up h r)) (2, 54, none) 0 0 180 [some (.ref 27), some (.int x1), some (.int x2), some (.int x3), some (.int x4), some (.int x5), some (.int x6), none, none, none, none, none] [] (mo_up h g))) : ∀ (n : Nat) (x1 : Int32) (x2 : Int32) (x3 : Int32) (x4 : Int32) (x5 : Int32) (x6 : Int32) (x7 : Int32) (g : mo_G), l_unwaves_142 K n x1 x2 x3 x4 x5 x6 x7 g = some r → mj_W M_Mo_unwaves (mj_q none (mo_up h r)) (2, 54, none) 0 0 142 [some (.ref 27), some (.int x1), some (.int x2), some (.int x3), some (.int x4), some (.int x5), some (.int x6), some (.int x7), none, none, none, none] [] (mo_up h g) := by
  intro n
  induction n with
  | zero =>
    intro x1 x2 x3 x4 x5 x6 x7 g hk
    cases hk
  | succ n hbk =>
    intro x1 x2 x3 x4 x5 x6 x7 g hk
    rw [l_unwaves_142] at hk
    refine mj_iload d_Mo_unwaves_142 rfl ?_
    refine mj_if_le (tgt := 180) d_Mo_unwaves_144 (by decide) (fun c_144 => ?_) (fun c_144 => ?_)
    · replace hk := og_pos c_144 hk
      refine mj_fg 7 (L' := [some (.ref 27), some (.int x1), some (.int x2), some (.int x3), some (.int x4), some (.int x5), some (.int x6), none, none, none, none, none]) rfl ?_
      exact hK _ _ _ _ _ _ _ hk
    · replace hk := og_neg c_144 hk
      refine mj_iconst (v := 2) d_Mo_unwaves_147 (by decide) ?_
      refine mj_iload d_Mo_unwaves_148 rfl ?_
      refine mj_imul d_Mo_unwaves_150 ?_
      refine mj_iload d_Mo_unwaves_151 rfl ?_
      refine mj_iload d_Mo_unwaves_153 rfl ?_
      obtain ⟨z32, hz32, hk⟩ := og_b hk
      refine mj_cS (S := [.int (2 * x7)]) (S1 := [.int z32, .int (2 * x7)]) (tm_least hz32) d_Mo_unwaves_155 cw_Mo_least ml_Mo_139 st_Mo_least (by decide) rfl (Nat.le_of_ble_eq_true rfl) rfl rfl ?_
      refine mj_icmp_gt (tgt := 180) d_Mo_unwaves_158 (by decide) (fun c_158 => ?_) (fun c_158 => ?_)
      · replace hk := og_pos c_158 hk
        refine mj_fg 7 (L' := [some (.ref 27), some (.int x1), some (.int x2), some (.int x3), some (.int x4), some (.int x5), some (.int x6), none, none, none, none, none]) rfl ?_
        exact hK _ _ _ _ _ _ _ hk
      · replace hk := og_neg c_158 hk
        refine mj_aload_n d_Mo_unwaves_161 rfl ?_
        refine mj_iload d_Mo_unwaves_162 rfl ?_
        refine mj_iload d_Mo_unwaves_164 rfl ?_
        refine mj_iload d_Mo_unwaves_166 rfl ?_
        obtain ⟨z33, hz33, hk⟩ := og_b hk
        refine mj_cV (S := []) (S1 := []) (tm_unwave hl hz33) d_Mo_unwaves_168 cw_Mo_unwave ml_Mo_214 im_Mo_unwave se_Mo_unwave rfl (mo_h hl) (by decide) rfl (Nat.le_of_ble_eq_true rfl) rfl rfl ?_
        refine mj_iload d_Mo_unwaves_171 rfl ?_
        refine mj_iconst (v := 2) d_Mo_unwaves_173 (by decide) ?_
        refine mj_idiv d_Mo_unwaves_174 (by decide) ?_
        refine mj_istore (L' := [some (.ref 27), some (.int x1), some (.int x2), some (.int x3), some (.int x4), some (.int x5), some (.int x6), some (.int (x7 / 2)), none, none, none, none]) d_Mo_unwaves_175 (by decide) rfl rfl ?_
        refine mj_goto (tgt := 142) d_Mo_unwaves_177 (by decide) ?_
        exact hbk _ _ _ _ _ _ _ _ hk
noncomputable def j_unwaves_292 (K : Int32 → Int32 → Int32 → Int32 → Int32 → Int32 → Int32 → Int32 → mo_G → Option mo_G) (bk : Int32 → Int32 → Int32 → Int32 → Int32 → Int32 → Int32 → Int32 → Int32 → mo_G → Option mo_G) (x1 : Int32) (x2 : Int32) (x3 : Int32) (x4 : Int32) (x5 : Int32) (x6 : Int32) (x8 : Int32) (x9 : Int32) (x10 : Int32) (s0 : Int32) (s1 : Int32) (g : mo_G) : Option mo_G := og (vp_in (s1 : Int32) 192) (bk x1 x2 x3 x4 x5 x6 x8 x9 (x10 + 1) (g.1, mo_uA g.2 8 (upd (g.2 8) (s1 : Int32).toNatClampNeg s0)))
set_option maxRecDepth 100000 in
set_option maxHeartbeats 4000000 in
theorem tj_unwaves_292 {h : mj_H} {r : mo_G} (hl : 39 < h.length) {K : Int32 → Int32 → Int32 → Int32 → Int32 → Int32 → Int32 → Int32 → mo_G → Option mo_G} {bk : Int32 → Int32 → Int32 → Int32 → Int32 → Int32 → Int32 → Int32 → Int32 → mo_G → Option mo_G} (hK : (∀ (x1 : Int32) (x2 : Int32) (x3 : Int32) (x4 : Int32) (x5 : Int32) (x6 : Int32) (x8 : Int32) (x9 : Int32) (g : mo_G), K x1 x2 x3 x4 x5 x6 x8 x9 g = some r → mj_W M_Mo_unwaves (mj_q none (mo_up h r)) (2, 54, none) 0 0 299 [some (.ref 27), some (.int x1), some (.int x2), some (.int x3), some (.int x4), some (.int x5), some (.int x6), none, some (.int x8), some (.int x9), none, none] [] (mo_up h g))) (hbk : (∀ (x1 : Int32) (x2 : Int32) (x3 : Int32) (x4 : Int32) (x5 : Int32) (x6 : Int32) (x8 : Int32) (x9 : Int32) (x10 : Int32) (g : mo_G), bk x1 x2 x3 x4 x5 x6 x8 x9 x10 g = some r → mj_W M_Mo_unwaves (mj_q none (mo_up h r)) (2, 54, none) 0 0 212 [some (.ref 27), some (.int x1), some (.int x2), some (.int x3), some (.int x4), some (.int x5), some (.int x6), none, some (.int x8), some (.int x9), some (.int x10), none] [] (mo_up h g))) {x1 : Int32} {x2 : Int32} {x3 : Int32} {x4 : Int32} {x5 : Int32} {x6 : Int32} {x8 : Int32} {x9 : Int32} {x10 : Int32} {s0 : Int32} {s1 : Int32} {g : mo_G} (hk : j_unwaves_292 K bk x1 x2 x3 x4 x5 x6 x8 x9 x10 s0 s1 g = some r) : mj_W M_Mo_unwaves (mj_q none (mo_up h r)) (2, 54, none) 0 0 292 [some (.ref 27), some (.int x1), some (.int x2), some (.int x3), some (.int x4), some (.int x5), some (.int x6), none, some (.int x8), some (.int x9), some (.int x10), none] [.int s0, .int s1, .ref 36] (mo_up h g) := by
  unfold j_unwaves_292 at hk
  have q46 := og_1 hk
  replace hk := og_2 hk
  refine mj_iast (f := (g.2 8)) d_Mo_unwaves_292 (mo_a8 hl) q46 ?_
  refine mj_hp (h1 := mo_up h (g.1, mo_uA g.2 8 (upd (g.2 8) (s1 : Int32).toNatClampNeg s0))) (mo_b8 (g := g) hl (upd (g.2 8) (s1 : Int32).toNatClampNeg s0)) ?_
  refine mj_iinc (x := x10) (v := x10 + 1) (L' := [some (.ref 27), some (.int x1), some (.int x2), some (.int x3), some (.int x4), some (.int x5), some (.int x6), none, some (.int x8), some (.int x9), some (.int (x10 + 1)), none]) d_Mo_unwaves_293 rfl rfl (by decide) rfl rfl ?_
  refine mj_goto (tgt := 212) d_Mo_unwaves_296 (by decide) ?_
  exact hbk _ _ _ _ _ _ _ _ _ _ hk
noncomputable def l_unwaves_212 (K : Int32 → Int32 → Int32 → Int32 → Int32 → Int32 → Int32 → Int32 → mo_G → Option mo_G) : Nat → Int32 → Int32 → Int32 → Int32 → Int32 → Int32 → Int32 → Int32 → Int32 → mo_G → Option mo_G
  | 0, _, _, _, _, _, _, _, _, _, _ => none
  | n + 1, x1, x2, x3, x4, x5, x6, x8, x9, x10, g => if x4 ≤ x10 then (K x1 x2 x3 x4 x5 x6 x8 x9 g) else (og (vp_in (x3 : Int32) 3) (if x6 = 0 then (og (vp_in (((8 * x8) + x10) : Int32) 64) (j_unwaves_292 K (fun x1 x2 x3 x4 x5 x6 x8 x9 x10 g => l_unwaves_212 K n x1 x2 x3 x4 x5 x6 x8 x9 x10 g) x1 x2 x3 x4 x5 x6 x8 x9 x10 (((g.2 11) (((8 * x8) + x10) : Int32).toNatClampNeg)) (((((64 * x3) + (8 * x9))) + (((((g.2 7) (x3 : Int32).toNatClampNeg)) * x10)))) g)) else (og (vp_in (((((64 * x3) + (8 * x9))) + (((((g.2 7) (x3 : Int32).toNatClampNeg)) * x10))) : Int32) 192) (og (vp_in (((8 * x8) + x10) : Int32) 64) (j_unwaves_292 K (fun x1 x2 x3 x4 x5 x6 x8 x9 x10 g => l_unwaves_212 K n x1 x2 x3 x4 x5 x6 x8 x9 x10 g) x1 x2 x3 x4 x5 x6 x8 x9 x10 (((((g.2 8) (((((64 * x3) + (8 * x9))) + (((((g.2 7) (x3 : Int32).toNatClampNeg)) * x10))) : Int32).toNatClampNeg)) ||| (((((g.2 11) (((8 * x8) + x10) : Int32).toNatClampNeg)) <<< (16 &&& 31))))) (((((64 * x3) + (8 * x9))) + (((((g.2 7) (x3 : Int32).toNatClampNeg)) * x10)))) g)))))
set_option maxRecDepth 100000 in
set_option maxHeartbeats 4000000 in
theorem tl_unwaves_212 {h : mj_H} {r : mo_G} (hl : 39 < h.length) {K : Int32 → Int32 → Int32 → Int32 → Int32 → Int32 → Int32 → Int32 → mo_G → Option mo_G} (hK : (∀ (x1 : Int32) (x2 : Int32) (x3 : Int32) (x4 : Int32) (x5 : Int32) (x6 : Int32) (x8 : Int32) (x9 : Int32) (g : mo_G), K x1 x2 x3 x4 x5 x6 x8 x9 g = some r → mj_W M_Mo_unwaves (mj_q none (mo_up h r)) (2, 54, none) 0 0 299 [some (.ref 27), some (.int x1), some (.int x2), some (.int x3), some (.int x4), some (.int x5), some (.int x6), none, some (.int x8), some (.int x9), none, none] [] (mo_up h g))) : ∀ (n : Nat) (x1 : Int32) (x2 : Int32) (x3 : Int32) (x4 : Int32) (x5 : Int32) (x6 : Int32) (x8 : Int32) (x9 : Int32) (x10 : Int32) (g : mo_G), l_unwaves_212 K n x1 x2 x3 x4 x5 x6 x8 x9 x10 g = some r → mj_W M_Mo_unwaves (mj_q none (mo_up h r)) (2, 54, none) 0 0 212 [some (.ref 27), some (.int x1), some (.int x2), some (.int x3), some (.int x4), some (.int x5), some (.int x6), none, some (.int x8), some (.int x9), some (.int x10), none] [] (mo_up h g) := by
  intro n
  induction n with
  | zero =>
    intro x1 x2 x3 x4 x5 x6 x8 x9 x10 g hk
    cases hk
  | succ n hbk =>
    intro x1 x2 x3 x4 x5 x6 x8 x9 x10 g hk
    rw [l_unwaves_212] at hk
    refine mj_iload d_Mo_unwaves_212 rfl ?_
    refine mj_iload d_Mo_unwaves_214 rfl ?_
    refine mj_icmp_ge (tgt := 299) d_Mo_unwaves_216 (by decide) (fun c_216 => ?_) (fun c_216 => ?_)
    · replace hk := og_pos c_216 hk
      refine mj_fg 10 (L' := [some (.ref 27), some (.int x1), some (.int x2), some (.int x3), some (.int x4), some (.int x5), some (.int x6), none, some (.int x8), some (.int x9), none, none]) rfl ?_
      exact hK _ _ _ _ _ _ _ _ _ hk
    · replace hk := og_neg c_216 hk
      refine mj_bipush (v := 64) d_Mo_unwaves_219 (by decide) ?_
      refine mj_iload_n d_Mo_unwaves_221 rfl ?_
      refine mj_imul d_Mo_unwaves_222 ?_
      refine mj_bipush (v := 8) d_Mo_unwaves_223 (by decide) ?_
      refine mj_iload d_Mo_unwaves_225 rfl ?_
      refine mj_imul d_Mo_unwaves_227 ?_
      refine mj_iadd d_Mo_unwaves_228 ?_
      refine mj_aload_n d_Mo_unwaves_229 rfl ?_
      refine mj_get ok_Mo (k := 13) (v := .ref 35) (by decide) fl_Mo_44 d_Mo_unwaves_230 (mo_h hl) rfl ?_
      refine mj_iload_n d_Mo_unwaves_233 rfl ?_
      have q43 := og_1 hk
      replace hk := og_2 hk
      refine mj_iald (f := (g.2 7)) d_Mo_unwaves_234 (mo_a7 hl) q43 ?_
      refine mj_iload d_Mo_unwaves_235 rfl ?_
      refine mj_imul d_Mo_unwaves_237 ?_
      refine mj_iadd d_Mo_unwaves_238 ?_
      refine mj_istore (L' := [some (.ref 27), some (.int x1), some (.int x2), some (.int x3), some (.int x4), some (.int x5), some (.int x6), none, some (.int x8), some (.int x9), some (.int x10), some (.int ((((64 * x3) + (8 * x9))) + (((((g.2 7) (x3 : Int32).toNatClampNeg)) * x10))))]) d_Mo_unwaves_239 (by decide) rfl rfl ?_
      refine mj_aload_n d_Mo_unwaves_241 rfl ?_
      refine mj_get ok_Mo (k := 14) (v := .ref 36) (by decide) fl_Mo_47 d_Mo_unwaves_242 (mo_h hl) rfl ?_
      refine mj_iload d_Mo_unwaves_245 rfl ?_
      refine mj_iload d_Mo_unwaves_247 rfl ?_
      refine mj_if_ne (tgt := 268) d_Mo_unwaves_249 (by decide) (fun c_249 => ?_) (fun c_249 => ?_)
      · replace hk := og_neg c_249 hk
        refine mj_aload_n d_Mo_unwaves_268 rfl ?_
        refine mj_get ok_Mo (k := 14) (v := .ref 36) (by decide) fl_Mo_47 d_Mo_unwaves_269 (mo_h hl) rfl ?_
        refine mj_iload d_Mo_unwaves_272 rfl ?_
        have q44 := og_1 hk
        replace hk := og_2 hk
        refine mj_iald (f := (g.2 8)) d_Mo_unwaves_274 (mo_a8 hl) q44 ?_
        refine mj_aload_n d_Mo_unwaves_275 rfl ?_
        refine mj_get ok_Mo (k := 17) (v := .ref 39) (by decide) fl_Mo_56 d_Mo_unwaves_276 (mo_h hl) rfl ?_
        refine mj_bipush (v := 8) d_Mo_unwaves_279 (by decide) ?_
        refine mj_iload d_Mo_unwaves_281 rfl ?_
        refine mj_imul d_Mo_unwaves_283 ?_
        refine mj_iload d_Mo_unwaves_284 rfl ?_
        refine mj_iadd d_Mo_unwaves_286 ?_
        have q45 := og_1 hk
        replace hk := og_2 hk
        refine mj_iald (f := (g.2 11)) d_Mo_unwaves_287 (mo_a11 hl) q45 ?_
        refine mj_bipush (v := 16) d_Mo_unwaves_288 (by decide) ?_
        refine mj_ishl d_Mo_unwaves_290 ?_
        refine mj_ior d_Mo_unwaves_291 ?_
        refine mj_fg 11 (L' := [some (.ref 27), some (.int x1), some (.int x2), some (.int x3), some (.int x4), some (.int x5), some (.int x6), none, some (.int x8), some (.int x9), some (.int x10), none]) rfl ?_
        exact tj_unwaves_292 hl hK hbk hk
      · replace hk := og_pos c_249 hk
        refine mj_aload_n d_Mo_unwaves_252 rfl ?_
        refine mj_get ok_Mo (k := 17) (v := .ref 39) (by decide) fl_Mo_56 d_Mo_unwaves_253 (mo_h hl) rfl ?_
        refine mj_bipush (v := 8) d_Mo_unwaves_256 (by decide) ?_
        refine mj_iload d_Mo_unwaves_258 rfl ?_
        refine mj_imul d_Mo_unwaves_260 ?_
        refine mj_iload d_Mo_unwaves_261 rfl ?_
        refine mj_iadd d_Mo_unwaves_263 ?_
        have q47 := og_1 hk
        replace hk := og_2 hk
        refine mj_iald (f := (g.2 11)) d_Mo_unwaves_264 (mo_a11 hl) q47 ?_
        refine mj_goto (tgt := 292) d_Mo_unwaves_265 (by decide) ?_
        refine mj_fg 11 (L' := [some (.ref 27), some (.int x1), some (.int x2), some (.int x3), some (.int x4), some (.int x5), some (.int x6), none, some (.int x8), some (.int x9), some (.int x10), none]) rfl ?_
        exact tj_unwaves_292 hl hK hbk hk
noncomputable def j_unwaves_302 (K : Int32 → Int32 → Int32 → Int32 → Int32 → Int32 → mo_G → Option mo_G) (bk : Int32 → Int32 → Int32 → Int32 → Int32 → Int32 → Int32 → Int32 → mo_G → Option mo_G) (x1 : Int32) (x2 : Int32) (x3 : Int32) (x4 : Int32) (x5 : Int32) (x6 : Int32) (x8 : Int32) (x9 : Int32) (g : mo_G) : Option mo_G := bk x1 x2 x3 x4 x5 x6 x8 (x9 + 1) g
set_option maxRecDepth 100000 in
set_option maxHeartbeats 4000000 in
theorem tj_unwaves_302 {h : mj_H} {r : mo_G} (hl : 39 < h.length) {K : Int32 → Int32 → Int32 → Int32 → Int32 → Int32 → mo_G → Option mo_G} {bk : Int32 → Int32 → Int32 → Int32 → Int32 → Int32 → Int32 → Int32 → mo_G → Option mo_G} (hK : (∀ (x1 : Int32) (x2 : Int32) (x3 : Int32) (x4 : Int32) (x5 : Int32) (x6 : Int32) (g : mo_G), K x1 x2 x3 x4 x5 x6 g = some r → mj_W M_Mo_unwaves (mj_q none (mo_up h r)) (2, 54, none) 0 0 308 [some (.ref 27), some (.int x1), some (.int x2), some (.int x3), some (.int x4), some (.int x5), some (.int x6), none, none, none, none, none] [] (mo_up h g))) (hbk : (∀ (x1 : Int32) (x2 : Int32) (x3 : Int32) (x4 : Int32) (x5 : Int32) (x6 : Int32) (x8 : Int32) (x9 : Int32) (g : mo_G), bk x1 x2 x3 x4 x5 x6 x8 x9 g = some r → mj_W M_Mo_unwaves (mj_q none (mo_up h r)) (2, 54, none) 0 0 186 [some (.ref 27), some (.int x1), some (.int x2), some (.int x3), some (.int x4), some (.int x5), some (.int x6), none, some (.int x8), some (.int x9), none, none] [] (mo_up h g))) {x1 : Int32} {x2 : Int32} {x3 : Int32} {x4 : Int32} {x5 : Int32} {x6 : Int32} {x8 : Int32} {x9 : Int32} {g : mo_G} (hk : j_unwaves_302 K bk x1 x2 x3 x4 x5 x6 x8 x9 g = some r) : mj_W M_Mo_unwaves (mj_q none (mo_up h r)) (2, 54, none) 0 0 302 [some (.ref 27), some (.int x1), some (.int x2), some (.int x3), some (.int x4), some (.int x5), some (.int x6), none, some (.int x8), some (.int x9), none, none] [] (mo_up h g) := by
  unfold j_unwaves_302 at hk
  refine mj_iinc (x := x9) (v := x9 + 1) (L' := [some (.ref 27), some (.int x1), some (.int x2), some (.int x3), some (.int x4), some (.int x5), some (.int x6), none, some (.int x8), some (.int (x9 + 1)), none, none]) d_Mo_unwaves_302 rfl rfl (by decide) rfl rfl ?_
  refine mj_goto (tgt := 186) d_Mo_unwaves_305 (by decide) ?_
  exact hbk _ _ _ _ _ _ _ _ _ hk
noncomputable def l_unwaves_186 (K : Int32 → Int32 → Int32 → Int32 → Int32 → Int32 → mo_G → Option mo_G) : Nat → Int32 → Int32 → Int32 → Int32 → Int32 → Int32 → Int32 → Int32 → mo_G → Option mo_G
  | 0, _, _, _, _, _, _, _, _, _ => none
  | n + 1, x1, x2, x3, x4, x5, x6, x8, x9, g => if (x1 + x2) ≤ x9 then (K x1 x2 x3 x4 x5 x6 g) else (og (vp_in (x3 : Int32) 3) (og (¬ (((g.2 7) (x3 : Int32).toNatClampNeg)) = 0) (if ((x9 - x9 / (((g.2 7) (x3 : Int32).toNatClampNeg)) * (((g.2 7) (x3 : Int32).toNatClampNeg)))) = 0 then (l_unwaves_212 (fun y49 y50 y51 y52 y53 y54 y55 y56 g48 => j_unwaves_302 K (fun x1 x2 x3 x4 x5 x6 x8 x9 g => l_unwaves_186 K n x1 x2 x3 x4 x5 x6 x8 x9 g) y49 y50 y51 y52 y53 y54 (y55 + 1) y56 g48) 2000 x1 x2 x3 x4 x5 x6 x8 x9 0 g) else (j_unwaves_302 K (fun x1 x2 x3 x4 x5 x6 x8 x9 g => l_unwaves_186 K n x1 x2 x3 x4 x5 x6 x8 x9 g) x1 x2 x3 x4 x5 x6 x8 x9 g))))
set_option maxRecDepth 100000 in
set_option maxHeartbeats 4000000 in
theorem tl_unwaves_186 {h : mj_H} {r : mo_G} (hl : 39 < h.length) {K : Int32 → Int32 → Int32 → Int32 → Int32 → Int32 → mo_G → Option mo_G} (hK : (∀ (x1 : Int32) (x2 : Int32) (x3 : Int32) (x4 : Int32) (x5 : Int32) (x6 : Int32) (g : mo_G), K x1 x2 x3 x4 x5 x6 g = some r → mj_W M_Mo_unwaves (mj_q none (mo_up h r)) (2, 54, none) 0 0 308 [some (.ref 27), some (.int x1), some (.int x2), some (.int x3), some (.int x4), some (.int x5), some (.int x6), none, none, none, none, none] [] (mo_up h g))) : ∀ (n : Nat) (x1 : Int32) (x2 : Int32) (x3 : Int32) (x4 : Int32) (x5 : Int32) (x6 : Int32) (x8 : Int32) (x9 : Int32) (g : mo_G), l_unwaves_186 K n x1 x2 x3 x4 x5 x6 x8 x9 g = some r → mj_W M_Mo_unwaves (mj_q none (mo_up h r)) (2, 54, none) 0 0 186 [some (.ref 27), some (.int x1), some (.int x2), some (.int x3), some (.int x4), some (.int x5), some (.int x6), none, some (.int x8), some (.int x9), none, none] [] (mo_up h g) := by
  intro n
  induction n with
  | zero =>
    intro x1 x2 x3 x4 x5 x6 x8 x9 g hk
    cases hk
  | succ n hbk =>
    intro x1 x2 x3 x4 x5 x6 x8 x9 g hk
    rw [l_unwaves_186] at hk
    refine mj_iload d_Mo_unwaves_186 rfl ?_
    refine mj_iload_n d_Mo_unwaves_188 rfl ?_
    refine mj_iload_n d_Mo_unwaves_189 rfl ?_
    refine mj_iadd d_Mo_unwaves_190 ?_
    refine mj_icmp_ge (tgt := 308) d_Mo_unwaves_191 (by decide) (fun c_191 => ?_) (fun c_191 => ?_)
    · replace hk := og_pos c_191 hk
      refine mj_fg 8 (L' := [some (.ref 27), some (.int x1), some (.int x2), some (.int x3), some (.int x4), some (.int x5), some (.int x6), none, none, some (.int x9), none, none]) rfl ?_
      refine mj_fg 9 (L' := [some (.ref 27), some (.int x1), some (.int x2), some (.int x3), some (.int x4), some (.int x5), some (.int x6), none, none, none, none, none]) rfl ?_
      exact hK _ _ _ _ _ _ _ hk
    · replace hk := og_neg c_191 hk
      refine mj_iload d_Mo_unwaves_194 rfl ?_
      refine mj_aload_n d_Mo_unwaves_196 rfl ?_
      refine mj_get ok_Mo (k := 13) (v := .ref 35) (by decide) fl_Mo_44 d_Mo_unwaves_197 (mo_h hl) rfl ?_
      refine mj_iload_n d_Mo_unwaves_200 rfl ?_
      have q41 := og_1 hk
      replace hk := og_2 hk
      refine mj_iald (f := (g.2 7)) d_Mo_unwaves_201 (mo_a7 hl) q41 ?_
      have q42 := og_1 hk
      replace hk := og_2 hk
      refine mj_irem d_Mo_unwaves_202 q42 ?_
      refine mj_if_eq (tgt := 209) d_Mo_unwaves_203 (by decide) (fun c_203 => ?_) (fun c_203 => ?_)
      · replace hk := og_pos c_203 hk
        refine mj_iconst (v := 0) d_Mo_unwaves_209 (by decide) ?_
        refine mj_istore (L' := [some (.ref 27), some (.int x1), some (.int x2), some (.int x3), some (.int x4), some (.int x5), some (.int x6), none, some (.int x8), some (.int x9), some (.int 0), none]) d_Mo_unwaves_210 (by decide) rfl rfl ?_
        refine tl_unwaves_212 hl ?_ 2000 _ _ _ _ _ _ _ _ _ _ hk
        intro y49 y50 y51 y52 y53 y54 y55 y56 g48 hk
        refine mj_iinc (x := y55) (v := y55 + 1) (L' := [some (.ref 27), some (.int y49), some (.int y50), some (.int y51), some (.int y52), some (.int y53), some (.int y54), none, some (.int (y55 + 1)), some (.int y56), none, none]) d_Mo_unwaves_299 rfl rfl (by decide) rfl rfl ?_
        exact tj_unwaves_302 hl hK hbk hk
      · replace hk := og_neg c_203 hk
        refine mj_goto (tgt := 302) d_Mo_unwaves_206 (by decide) ?_
        exact tj_unwaves_302 hl hK hbk hk
noncomputable def j_unwaves_180 (K : Int32 → Int32 → Int32 → mo_G → Option mo_G) (bk : Int32 → Int32 → Int32 → Int32 → Int32 → Int32 → mo_G → Option mo_G) (x1 : Int32) (x2 : Int32) (x3 : Int32) (x4 : Int32) (x5 : Int32) (x6 : Int32) (g : mo_G) : Option mo_G := l_unwaves_186 (fun y58 y59 y60 y61 y62 y63 g57 => bk y58 y59 y60 y61 y62 (y63 + 1) g57) 2000 x1 x2 x3 x4 x5 x6 0 x1 g
set_option maxRecDepth 100000 in
set_option maxHeartbeats 4000000 in
theorem tj_unwaves_180 {h : mj_H} {r : mo_G} (hl : 39 < h.length) {K : Int32 → Int32 → Int32 → mo_G → Option mo_G} {bk : Int32 → Int32 → Int32 → Int32 → Int32 → Int32 → mo_G → Option mo_G} (hK : (∀ (x1 : Int32) (x2 : Int32) (x3 : Int32) (g : mo_G), K x1 x2 x3 g = some r → mj_W M_Mo_unwaves (mj_q none (mo_up h r)) (2, 54, none) 0 0 314 [some (.ref 27), some (.int x1), some (.int x2), some (.int x3), none, none, none, none, none, none, none, none] [] (mo_up h g))) (hbk : (∀ (x1 : Int32) (x2 : Int32) (x3 : Int32) (x4 : Int32) (x5 : Int32) (x6 : Int32) (g : mo_G), bk x1 x2 x3 x4 x5 x6 g = some r → mj_W M_Mo_unwaves (mj_q none (mo_up h r)) (2, 54, none) 0 0 46 [some (.ref 27), some (.int x1), some (.int x2), some (.int x3), some (.int x4), some (.int x5), some (.int x6), none, none, none, none, none] [] (mo_up h g))) {x1 : Int32} {x2 : Int32} {x3 : Int32} {x4 : Int32} {x5 : Int32} {x6 : Int32} {g : mo_G} (hk : j_unwaves_180 K bk x1 x2 x3 x4 x5 x6 g = some r) : mj_W M_Mo_unwaves (mj_q none (mo_up h r)) (2, 54, none) 0 0 180 [some (.ref 27), some (.int x1), some (.int x2), some (.int x3), some (.int x4), some (.int x5), some (.int x6), none, none, none, none, none] [] (mo_up h g) := by
  unfold j_unwaves_180 at hk
  refine mj_iconst (v := 0) d_Mo_unwaves_180 (by decide) ?_
  refine mj_istore (L' := [some (.ref 27), some (.int x1), some (.int x2), some (.int x3), some (.int x4), some (.int x5), some (.int x6), none, some (.int 0), none, none, none]) d_Mo_unwaves_181 (by decide) rfl rfl ?_
  refine mj_iload_n d_Mo_unwaves_183 rfl ?_
  refine mj_istore (L' := [some (.ref 27), some (.int x1), some (.int x2), some (.int x3), some (.int x4), some (.int x5), some (.int x6), none, some (.int 0), some (.int x1), none, none]) d_Mo_unwaves_184 (by decide) rfl rfl ?_
  refine tl_unwaves_186 hl ?_ 2000 _ _ _ _ _ _ _ _ _ hk
  intro y58 y59 y60 y61 y62 y63 g57 hk
  refine mj_iinc (x := y63) (v := y63 + 1) (L' := [some (.ref 27), some (.int y58), some (.int y59), some (.int y60), some (.int y61), some (.int y62), some (.int (y63 + 1)), none, none, none, none, none]) d_Mo_unwaves_308 rfl rfl (by decide) rfl rfl ?_
  refine mj_goto (tgt := 46) d_Mo_unwaves_311 (by decide) ?_
  exact hbk _ _ _ _ _ _ _ hk
noncomputable def j_unwaves_63 (K : Int32 → Int32 → Int32 → mo_G → Option mo_G) (bk : Int32 → Int32 → Int32 → Int32 → Int32 → Int32 → mo_G → Option mo_G) (x1 : Int32) (x2 : Int32) (x3 : Int32) (x4 : Int32) (x5 : Int32) (x6 : Int32) (s0 : Int32) (s1 : Int32) (g : mo_G) : Option mo_G := if s0 ≤ s1 then (K x1 x2 x3 g) else (l_unwaves_69 (fun y17 y18 y19 y20 y21 y22 g16 => l_unwaves_119 (fun y25 y26 y27 y28 y29 y30 y31 g24 => l_unwaves_142 (fun y35 y36 y37 y38 y39 y40 g34 => j_unwaves_180 K bk y35 y36 y37 y38 y39 y40 g34) 2000 y25 y26 y27 y28 y29 y30 y31 g24) 2000 y17 y18 y19 y20 y21 y22 1 g16) 2000 x1 x2 x3 x4 x5 x6 0 g)
set_option maxRecDepth 100000 in
set_option maxHeartbeats 4000000 in
theorem tj_unwaves_63 {h : mj_H} {r : mo_G} (hl : 39 < h.length) {K : Int32 → Int32 → Int32 → mo_G → Option mo_G} {bk : Int32 → Int32 → Int32 → Int32 → Int32 → Int32 → mo_G → Option mo_G} (hK : (∀ (x1 : Int32) (x2 : Int32) (x3 : Int32) (g : mo_G), K x1 x2 x3 g = some r → mj_W M_Mo_unwaves (mj_q none (mo_up h r)) (2, 54, none) 0 0 314 [some (.ref 27), some (.int x1), some (.int x2), some (.int x3), none, none, none, none, none, none, none, none] [] (mo_up h g))) (hbk : (∀ (x1 : Int32) (x2 : Int32) (x3 : Int32) (x4 : Int32) (x5 : Int32) (x6 : Int32) (g : mo_G), bk x1 x2 x3 x4 x5 x6 g = some r → mj_W M_Mo_unwaves (mj_q none (mo_up h r)) (2, 54, none) 0 0 46 [some (.ref 27), some (.int x1), some (.int x2), some (.int x3), some (.int x4), some (.int x5), some (.int x6), none, none, none, none, none] [] (mo_up h g))) {x1 : Int32} {x2 : Int32} {x3 : Int32} {x4 : Int32} {x5 : Int32} {x6 : Int32} {s0 : Int32} {s1 : Int32} {g : mo_G} (hk : j_unwaves_63 K bk x1 x2 x3 x4 x5 x6 s0 s1 g = some r) : mj_W M_Mo_unwaves (mj_q none (mo_up h r)) (2, 54, none) 0 0 63 [some (.ref 27), some (.int x1), some (.int x2), some (.int x3), some (.int x4), some (.int x5), some (.int x6), none, none, none, none, none] [.int s0, .int s1] (mo_up h g) := by
  unfold j_unwaves_63 at hk
  refine mj_icmp_ge (tgt := 314) d_Mo_unwaves_63 (by decide) (fun c_63 => ?_) (fun c_63 => ?_)
  · replace hk := og_pos c_63 hk
    refine mj_fg 4 (L' := [some (.ref 27), some (.int x1), some (.int x2), some (.int x3), none, some (.int x5), some (.int x6), none, none, none, none, none]) rfl ?_
    refine mj_fg 5 (L' := [some (.ref 27), some (.int x1), some (.int x2), some (.int x3), none, none, some (.int x6), none, none, none, none, none]) rfl ?_
    refine mj_fg 6 (L' := [some (.ref 27), some (.int x1), some (.int x2), some (.int x3), none, none, none, none, none, none, none, none]) rfl ?_
    exact hK _ _ _ _ hk
  · replace hk := og_neg c_63 hk
    refine mj_iconst (v := 0) d_Mo_unwaves_66 (by decide) ?_
    refine mj_istore (L' := [some (.ref 27), some (.int x1), some (.int x2), some (.int x3), some (.int x4), some (.int x5), some (.int x6), some (.int 0), none, none, none, none]) d_Mo_unwaves_67 (by decide) rfl rfl ?_
    refine tl_unwaves_69 hl ?_ 2000 _ _ _ _ _ _ _ _ hk
    intro y17 y18 y19 y20 y21 y22 g16 hk
    refine mj_iconst (v := 1) d_Mo_unwaves_116 (by decide) ?_
    refine mj_istore (L' := [some (.ref 27), some (.int y17), some (.int y18), some (.int y19), some (.int y20), some (.int y21), some (.int y22), some (.int 1), none, none, none, none]) d_Mo_unwaves_117 (by decide) rfl rfl ?_
    refine tl_unwaves_119 hl ?_ 2000 _ _ _ _ _ _ _ _ hk
    intro y25 y26 y27 y28 y29 y30 y31 g24 hk
    refine tl_unwaves_142 hl ?_ 2000 _ _ _ _ _ _ _ _ hk
    intro y35 y36 y37 y38 y39 y40 g34 hk
    exact tj_unwaves_180 hl hK hbk hk
noncomputable def l_unwaves_46 (K : Int32 → Int32 → Int32 → mo_G → Option mo_G) : Nat → Int32 → Int32 → Int32 → Int32 → Int32 → Int32 → mo_G → Option mo_G
  | 0, _, _, _, _, _, _, _ => none
  | n + 1, x1, x2, x3, x4, x5, x6, g => og (vp_in (x3 : Int32) 3) (if (((g.2 6) (x3 : Int32).toNatClampNeg)) = 1 then (j_unwaves_63 K (fun x1 x2 x3 x4 x5 x6 g => l_unwaves_46 K n x1 x2 x3 x4 x5 x6 g) x1 x2 x3 x4 x5 x6 2 x6 g) else (j_unwaves_63 K (fun x1 x2 x3 x4 x5 x6 g => l_unwaves_46 K n x1 x2 x3 x4 x5 x6 g) x1 x2 x3 x4 x5 x6 1 x6 g))
set_option maxRecDepth 100000 in
set_option maxHeartbeats 4000000 in
theorem tl_unwaves_46 {h : mj_H} {r : mo_G} (hl : 39 < h.length) {K : Int32 → Int32 → Int32 → mo_G → Option mo_G} (hK : (∀ (x1 : Int32) (x2 : Int32) (x3 : Int32) (g : mo_G), K x1 x2 x3 g = some r → mj_W M_Mo_unwaves (mj_q none (mo_up h r)) (2, 54, none) 0 0 314 [some (.ref 27), some (.int x1), some (.int x2), some (.int x3), none, none, none, none, none, none, none, none] [] (mo_up h g))) : ∀ (n : Nat) (x1 : Int32) (x2 : Int32) (x3 : Int32) (x4 : Int32) (x5 : Int32) (x6 : Int32) (g : mo_G), l_unwaves_46 K n x1 x2 x3 x4 x5 x6 g = some r → mj_W M_Mo_unwaves (mj_q none (mo_up h r)) (2, 54, none) 0 0 46 [some (.ref 27), some (.int x1), some (.int x2), some (.int x3), some (.int x4), some (.int x5), some (.int x6), none, none, none, none, none] [] (mo_up h g) := by
  intro n
  induction n with
  | zero =>
    intro x1 x2 x3 x4 x5 x6 g hk
    cases hk
  | succ n hbk =>
    intro x1 x2 x3 x4 x5 x6 g hk
    rw [l_unwaves_46] at hk
    refine mj_iload d_Mo_unwaves_46 rfl ?_
    refine mj_aload_n d_Mo_unwaves_48 rfl ?_
    refine mj_get ok_Mo (k := 12) (v := .ref 34) (by decide) fl_Mo_41 d_Mo_unwaves_49 (mo_h hl) rfl ?_
    refine mj_iload_n d_Mo_unwaves_52 rfl ?_
    have q5 := og_1 hk
    replace hk := og_2 hk
    refine mj_iald (f := (g.2 6)) d_Mo_unwaves_53 (mo_a6 hl) q5 ?_
    refine mj_iconst (v := 1) d_Mo_unwaves_54 (by decide) ?_
    refine mj_icmp_ne (tgt := 62) d_Mo_unwaves_55 (by decide) (fun c_55 => ?_) (fun c_55 => ?_)
    · replace hk := og_neg c_55 hk
      refine mj_iconst (v := 1) d_Mo_unwaves_62 (by decide) ?_
      exact tj_unwaves_63 hl hK hbk hk
    · replace hk := og_pos c_55 hk
      refine mj_iconst (v := 2) d_Mo_unwaves_58 (by decide) ?_
      refine mj_goto (tgt := 63) d_Mo_unwaves_59 (by decide) ?_
      exact tj_unwaves_63 hl hK hbk hk
noncomputable def l_unwaves_7 (K : mo_G → Option mo_G) : Nat → Int32 → Int32 → Int32 → mo_G → Option mo_G
  | 0, _, _, _, _ => none
  | n + 1, x1, x2, x3, g => if (g.1 12) ≤ x3 then (K g) else (og (vp_in (x3 : Int32) 3) ((r_across (g.1 10) (((g.2 7) (x3 : Int32).toNatClampNeg))).bind (fun z2 => og (vp_in (x3 : Int32) 3) ((r_down x1 x2 (((g.2 7) (x3 : Int32).toNatClampNeg))).bind (fun z4 => l_unwaves_46 (fun y65 y66 y67 g64 => (fun x1 x2 x3 g => l_unwaves_7 K n x1 x2 x3 g) y65 y66 (y67 + 1) g64) 2000 x1 x2 x3 z2 z4 0 g)))))
set_option maxRecDepth 100000 in
set_option maxHeartbeats 4000000 in
theorem tl_unwaves_7 {h : mj_H} {r : mo_G} (hl : 39 < h.length) {K : mo_G → Option mo_G} (hK : (∀ (g : mo_G), K g = some r → mj_W M_Mo_unwaves (mj_q none (mo_up h r)) (2, 54, none) 0 0 320 [some (.ref 27), none, none, none, none, none, none, none, none, none, none, none] [] (mo_up h g))) : ∀ (n : Nat) (x1 : Int32) (x2 : Int32) (x3 : Int32) (g : mo_G), l_unwaves_7 K n x1 x2 x3 g = some r → mj_W M_Mo_unwaves (mj_q none (mo_up h r)) (2, 54, none) 0 0 7 [some (.ref 27), some (.int x1), some (.int x2), some (.int x3), none, none, none, none, none, none, none, none] [] (mo_up h g) := by
  intro n
  induction n with
  | zero =>
    intro x1 x2 x3 g hk
    cases hk
  | succ n hbk =>
    intro x1 x2 x3 g hk
    rw [l_unwaves_7] at hk
    refine mj_iload_n d_Mo_unwaves_7 rfl ?_
    refine mj_aload_n d_Mo_unwaves_8 rfl ?_
    refine mj_get ok_Mo (k := 24) (v := .int (g.1 12)) (by decide) fl_Mo_200 d_Mo_unwaves_9 (mo_h hl) rfl ?_
    refine mj_icmp_ge (tgt := 320) d_Mo_unwaves_12 (by decide) (fun c_12 => ?_) (fun c_12 => ?_)
    · replace hk := og_pos c_12 hk
      refine mj_fg 1 (L' := [some (.ref 27), none, some (.int x2), some (.int x3), none, none, none, none, none, none, none, none]) rfl ?_
      refine mj_fg 2 (L' := [some (.ref 27), none, none, some (.int x3), none, none, none, none, none, none, none, none]) rfl ?_
      refine mj_fg 3 (L' := [some (.ref 27), none, none, none, none, none, none, none, none, none, none, none]) rfl ?_
      exact hK _ hk
    · replace hk := og_neg c_12 hk
      refine mj_aload_n d_Mo_unwaves_15 rfl ?_
      refine mj_get ok_Mo (k := 22) (v := .int (g.1 10)) (by decide) fl_Mo_191 d_Mo_unwaves_16 (mo_h hl) rfl ?_
      refine mj_aload_n d_Mo_unwaves_19 rfl ?_
      refine mj_get ok_Mo (k := 13) (v := .ref 35) (by decide) fl_Mo_44 d_Mo_unwaves_20 (mo_h hl) rfl ?_
      refine mj_iload_n d_Mo_unwaves_23 rfl ?_
      have q1 := og_1 hk
      replace hk := og_2 hk
      refine mj_iald (f := (g.2 7)) d_Mo_unwaves_24 (mo_a7 hl) q1 ?_
      obtain ⟨z2, hz2, hk⟩ := og_b hk
      refine mj_cS (S := []) (S1 := [.int z2]) (tm_across hz2) d_Mo_unwaves_25 cw_Mo_across ml_Mo_131 st_Mo_across (by decide) rfl (Nat.le_of_ble_eq_true rfl) rfl rfl ?_
      refine mj_istore (L' := [some (.ref 27), some (.int x1), some (.int x2), some (.int x3), some (.int z2), none, none, none, none, none, none, none]) d_Mo_unwaves_28 (by decide) rfl rfl ?_
      refine mj_iload_n d_Mo_unwaves_30 rfl ?_
      refine mj_iload_n d_Mo_unwaves_31 rfl ?_
      refine mj_aload_n d_Mo_unwaves_32 rfl ?_
      refine mj_get ok_Mo (k := 13) (v := .ref 35) (by decide) fl_Mo_44 d_Mo_unwaves_33 (mo_h hl) rfl ?_
      refine mj_iload_n d_Mo_unwaves_36 rfl ?_
      have q3 := og_1 hk
      replace hk := og_2 hk
      refine mj_iald (f := (g.2 7)) d_Mo_unwaves_37 (mo_a7 hl) q3 ?_
      obtain ⟨z4, hz4, hk⟩ := og_b hk
      refine mj_cS (S := []) (S1 := [.int z4]) (tm_down hz4) d_Mo_unwaves_38 cw_Mo_down ml_Mo_135 st_Mo_down (by decide) rfl (Nat.le_of_ble_eq_true rfl) rfl rfl ?_
      refine mj_istore (L' := [some (.ref 27), some (.int x1), some (.int x2), some (.int x3), some (.int z2), some (.int z4), none, none, none, none, none, none]) d_Mo_unwaves_41 (by decide) rfl rfl ?_
      refine mj_iconst (v := 0) d_Mo_unwaves_43 (by decide) ?_
      refine mj_istore (L' := [some (.ref 27), some (.int x1), some (.int x2), some (.int x3), some (.int z2), some (.int z4), some (.int 0), none, none, none, none, none]) d_Mo_unwaves_44 (by decide) rfl rfl ?_
      refine tl_unwaves_46 hl ?_ 2000 _ _ _ _ _ _ _ hk
      intro y65 y66 y67 g64 hk
      refine mj_iinc (x := y67) (v := y67 + 1) (L' := [some (.ref 27), some (.int y65), some (.int y66), some (.int (y67 + 1)), none, none, none, none, none, none, none, none]) d_Mo_unwaves_314 rfl rfl (by decide) rfl rfl ?_
      refine mj_goto (tgt := 7) d_Mo_unwaves_317 (by decide) ?_
      exact hbk _ _ _ _ hk
noncomputable def r_unwaves (x1 : Int32) (x2 : Int32) (g : mo_G) : Option mo_G := l_unwaves_7 (fun  g68 => some g68) 2000 x1 x2 0 (upd g.1 14 0, g.2)
set_option maxRecDepth 100000 in
set_option maxHeartbeats 4000000 in
theorem tm_unwaves {h : mj_H} {r : mo_G} (hl : 39 < h.length) {x1 : Int32} {x2 : Int32} {g : mo_G} (hk : r_unwaves x1 x2 g = some r) : mj_Met M_Mo_unwaves (2, 54, none) 0 0 [.ref 27, .int x1, .int x2] (mo_up h g) (mj_q none (mo_up h r)) := by
  unfold r_unwaves at hk
  refine mj_enter (r := 9) rfl rfl (by decide) rfl ?_
  show mj_W M_Mo_unwaves _ _ _ _ 0 [some (.ref 27), some (.int x1), some (.int x2), none, none, none, none, none, none, none, none, none] [] (mo_up h g)
  refine mj_aload_n d_Mo_unwaves_0 rfl ?_
  refine mj_iconst (v := 0) d_Mo_unwaves_1 (by decide) ?_
  refine mj_put ok_Mo (k := 26) (by decide) fl_Mo_207 rfl (fun _ => rfl) (fun _ => rfl) (Nat.le_of_ble_eq_true rfl) d_Mo_unwaves_2 (mo_h hl) ?_
  refine mj_hp (h1 := mo_up h (upd g.1 14 0, g.2)) (mo_p14 (g := g) hl 0) ?_
  refine mj_iconst (v := 0) d_Mo_unwaves_5 (by decide) ?_
  refine mj_istore_n (L' := [some (.ref 27), some (.int x1), some (.int x2), some (.int 0), none, none, none, none, none, none, none, none]) d_Mo_unwaves_6 (by decide) rfl rfl ?_
  refine tl_unwaves_7 hl ?_ 2000 _ _ _ _ hk
  intro  g68 hk
  cases hk
  exact mj_vret rfl d_Mo_unwaves_320 ⟨rfl, rfl⟩
