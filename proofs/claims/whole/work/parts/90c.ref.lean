noncomputable def r_across (x0 : Int32) (x1 : Int32) : Option Int32 := og (¬ x1 = 0) (some (((((x0 + x1) - 1)) / x1)))
set_option maxRecDepth 100000 in
set_option maxHeartbeats 4000000 in
theorem tm_across {h : mj_H} {r : Int32} {x0 : Int32} {x1 : Int32} (hk : r_across x0 x1 = some r) : mj_Met M_Mo_across (0, 0, none) 0 0 [.int x0, .int x1] h (mj_q (some (.int r)) h) := by
  unfold r_across at hk
  refine mj_enter (r := 0) rfl rfl (by decide) rfl ?_
  show mj_W M_Mo_across _ _ _ _ 0 [some (.int x0), some (.int x1)] [] h
  refine mj_iload_n d_Mo_across_0 rfl ?_
  refine mj_iload_n d_Mo_across_1 rfl ?_
  refine mj_iadd d_Mo_across_2 ?_
  refine mj_iconst (v := 1) d_Mo_across_3 (by decide) ?_
  refine mj_isub d_Mo_across_4 ?_
  refine mj_iload_n d_Mo_across_5 rfl ?_
  have q1 := og_1 hk
  replace hk := og_2 hk
  refine mj_idiv d_Mo_across_6 q1 ?_
  cases hk
  exact mj_iret rfl d_Mo_across_7 ⟨rfl, rfl⟩
noncomputable def j_down_23 (K : Int32 → Option Int32) (bk : Int32 → Int32 → Int32 → Int32 → Int32 → Option Int32) (x0 : Int32) (x1 : Int32) (x2 : Int32) (x3 : Int32) (x4 : Int32) : Option Int32 := bk x0 x1 x2 x3 (x4 + 1)
set_option maxRecDepth 100000 in
set_option maxHeartbeats 4000000 in
theorem tj_down_23 {h : mj_H} {r : Int32} {K : Int32 → Option Int32} {bk : Int32 → Int32 → Int32 → Int32 → Int32 → Option Int32} (hK : (∀ (x3 : Int32), K x3 = some r → mj_W M_Mo_down (mj_q (some (.int r)) h) (0, 0, none) 0 0 29 [none, none, none, some (.int x3), none] [] h)) (hbk : (∀ (x0 : Int32) (x1 : Int32) (x2 : Int32) (x3 : Int32) (x4 : Int32), bk x0 x1 x2 x3 x4 = some r → mj_W M_Mo_down (mj_q (some (.int r)) h) (0, 0, none) 0 0 5 [some (.int x0), some (.int x1), some (.int x2), some (.int x3), some (.int x4)] [] h)) {x0 : Int32} {x1 : Int32} {x2 : Int32} {x3 : Int32} {x4 : Int32} (hk : j_down_23 K bk x0 x1 x2 x3 x4 = some r) : mj_W M_Mo_down (mj_q (some (.int r)) h) (0, 0, none) 0 0 23 [some (.int x0), some (.int x1), some (.int x2), some (.int x3), some (.int x4)] [] h := by
  unfold j_down_23 at hk
  refine mj_iinc (x := x4) (v := x4 + 1) (L' := [some (.int x0), some (.int x1), some (.int x2), some (.int x3), some (.int (x4 + 1))]) d_Mo_down_23 rfl rfl (by decide) rfl rfl ?_
  refine mj_goto (tgt := 5) d_Mo_down_26 (by decide) ?_
  exact hbk _ _ _ _ _ hk
noncomputable def l_down_5 (K : Int32 → Option Int32) : Nat → Int32 → Int32 → Int32 → Int32 → Int32 → Option Int32
  | 0, _, _, _, _, _ => none
  | n + 1, x0, x1, x2, x3, x4 => if (x0 + x1) ≤ x4 then (K x3) else (og (¬ x2 = 0) (if (x4 - x4 / x2 * x2) = 0 then (j_down_23 K (fun x0 x1 x2 x3 x4 => l_down_5 K n x0 x1 x2 x3 x4) x0 x1 x2 (x3 + 1) x4) else (j_down_23 K (fun x0 x1 x2 x3 x4 => l_down_5 K n x0 x1 x2 x3 x4) x0 x1 x2 x3 x4)))
set_option maxRecDepth 100000 in
set_option maxHeartbeats 4000000 in
theorem tl_down_5 {h : mj_H} {r : Int32} {K : Int32 → Option Int32} (hK : (∀ (x3 : Int32), K x3 = some r → mj_W M_Mo_down (mj_q (some (.int r)) h) (0, 0, none) 0 0 29 [none, none, none, some (.int x3), none] [] h)) : ∀ (n : Nat) (x0 : Int32) (x1 : Int32) (x2 : Int32) (x3 : Int32) (x4 : Int32), l_down_5 K n x0 x1 x2 x3 x4 = some r → mj_W M_Mo_down (mj_q (some (.int r)) h) (0, 0, none) 0 0 5 [some (.int x0), some (.int x1), some (.int x2), some (.int x3), some (.int x4)] [] h := by
  intro n
  induction n with
  | zero =>
    intro x0 x1 x2 x3 x4 hk
    cases hk
  | succ n hbk =>
    intro x0 x1 x2 x3 x4 hk
    rw [l_down_5] at hk
    refine mj_iload d_Mo_down_5 rfl ?_
    refine mj_iload_n d_Mo_down_7 rfl ?_
    refine mj_iload_n d_Mo_down_8 rfl ?_
    refine mj_iadd d_Mo_down_9 ?_
    refine mj_icmp_ge (tgt := 29) d_Mo_down_10 (by decide) (fun c_10 => ?_) (fun c_10 => ?_)
    · replace hk := og_pos c_10 hk
      refine mj_fg 0 (L' := [none, some (.int x1), some (.int x2), some (.int x3), some (.int x4)]) rfl ?_
      refine mj_fg 1 (L' := [none, none, some (.int x2), some (.int x3), some (.int x4)]) rfl ?_
      refine mj_fg 2 (L' := [none, none, none, some (.int x3), some (.int x4)]) rfl ?_
      refine mj_fg 4 (L' := [none, none, none, some (.int x3), none]) rfl ?_
      exact hK _ hk
    · replace hk := og_neg c_10 hk
      refine mj_iload d_Mo_down_13 rfl ?_
      refine mj_iload_n d_Mo_down_15 rfl ?_
      have q1 := og_1 hk
      replace hk := og_2 hk
      refine mj_irem d_Mo_down_16 q1 ?_
      refine mj_if_ne (tgt := 23) d_Mo_down_17 (by decide) (fun c_17 => ?_) (fun c_17 => ?_)
      · replace hk := og_neg c_17 hk
        exact tj_down_23 hK hbk hk
      · replace hk := og_pos c_17 hk
        refine mj_iinc (x := x3) (v := x3 + 1) (L' := [some (.int x0), some (.int x1), some (.int x2), some (.int (x3 + 1)), some (.int x4)]) d_Mo_down_20 rfl rfl (by decide) rfl rfl ?_
        exact tj_down_23 hK hbk hk
noncomputable def r_down (x0 : Int32) (x1 : Int32) (x2 : Int32) : Option Int32 := l_down_5 (fun y3 => some y3) 2000 x0 x1 x2 0 x0
set_option maxRecDepth 100000 in
set_option maxHeartbeats 4000000 in
theorem tm_down {h : mj_H} {r : Int32} {x0 : Int32} {x1 : Int32} {x2 : Int32} (hk : r_down x0 x1 x2 = some r) : mj_Met M_Mo_down (0, 0, none) 0 0 [.int x0, .int x1, .int x2] h (mj_q (some (.int r)) h) := by
  unfold r_down at hk
  refine mj_enter (r := 2) rfl rfl (by decide) rfl ?_
  show mj_W M_Mo_down _ _ _ _ 0 [some (.int x0), some (.int x1), some (.int x2), none, none] [] h
  refine mj_iconst (v := 0) d_Mo_down_0 (by decide) ?_
  refine mj_istore_n (L' := [some (.int x0), some (.int x1), some (.int x2), some (.int 0), none]) d_Mo_down_1 (by decide) rfl rfl ?_
  refine mj_iload_n d_Mo_down_2 rfl ?_
  refine mj_istore (L' := [some (.int x0), some (.int x1), some (.int x2), some (.int 0), some (.int x0)]) d_Mo_down_3 (by decide) rfl rfl ?_
  refine tl_down_5 ?_ 2000 _ _ _ _ _ hk
  intro y3 hk
  refine mj_iload_n d_Mo_down_29 rfl ?_
  cases hk
  exact mj_iret rfl d_Mo_down_30 ⟨rfl, rfl⟩
noncomputable def j_into_38 (x3 : Int32) (x5 : Int32) (x6 : Int32) (g : mo_G) : Option (Prod Int32 mo_G) := if x3 = 0 then (some ((x6 &&& 65535), g)) else (some (x5, g))
set_option maxRecDepth 100000 in
set_option maxHeartbeats 4000000 in
theorem tj_into_38 {h : mj_H} {r : (Prod Int32 mo_G)} (hl : 39 < h.length) {x3 : Int32} {x5 : Int32} {x6 : Int32} {g : mo_G} (hk : j_into_38 x3 x5 x6 g = some r) : mj_W M_Mo_into (mj_q (some (.int r.1)) (mo_up h r.2)) (0, 0, none) 0 0 38 [some (.ref 27), none, none, some (.int x3), none, some (.int x5), some (.int x6)] [] (mo_up h g) := by
  unfold j_into_38 at hk
  refine mj_iload_n d_Mo_into_38 rfl ?_
  refine mj_if_eq (tgt := 47) d_Mo_into_39 (by decide) (fun c_39 => ?_) (fun c_39 => ?_)
  · replace hk := og_pos c_39 hk
    refine mj_iload d_Mo_into_47 rfl ?_
    refine mj_ldc d_Mo_into_49 k_Mo_72 ?_
    refine mj_iand d_Mo_into_51 ?_
    cases hk
    exact mj_iret rfl d_Mo_into_52 ⟨rfl, rfl⟩
  · replace hk := og_neg c_39 hk
    refine mj_iload d_Mo_into_42 rfl ?_
    refine mj_goto (tgt := 52) d_Mo_into_44 (by decide) ?_
    cases hk
    exact mj_iret rfl d_Mo_into_52 ⟨rfl, rfl⟩
noncomputable def r_into (x1 : Int32) (x2 : Int32) (x3 : Int32) (g : mo_G) : Option (Prod Int32 mo_G) := if 0 ≤ (((((x1 + 32768) &&& 65535)) - x2)) then (j_into_38 x3 (((((((x1 + 32768) &&& 65535)) + x2)) / 2)) (((((x1 + 32768) &&& 65535)) - x2)) g) else (j_into_38 x3 (((((((((((x1 + 32768) &&& 65535)) + x2)) / 2)) + 32768)) &&& 65535)) (((((x1 + 32768) &&& 65535)) - x2)) g)
set_option maxRecDepth 100000 in
set_option maxHeartbeats 4000000 in
theorem tm_into {h : mj_H} {r : (Prod Int32 mo_G)} (hl : 39 < h.length) {x1 : Int32} {x2 : Int32} {x3 : Int32} {g : mo_G} (hk : r_into x1 x2 x3 g = some r) : mj_Met M_Mo_into (0, 0, none) 0 0 [.ref 27, .int x1, .int x2, .int x3] (mo_up h g) (mj_q (some (.int r.1)) (mo_up h r.2)) := by
  unfold r_into at hk
  refine mj_enter (r := 3) rfl rfl (by decide) rfl ?_
  show mj_W M_Mo_into _ _ _ _ 0 [some (.ref 27), some (.int x1), some (.int x2), some (.int x3), none, none, none] [] (mo_up h g)
  refine mj_iload_n d_Mo_into_0 rfl ?_
  refine mj_ldc d_Mo_into_1 k_Mo_81 ?_
  refine mj_iadd d_Mo_into_3 ?_
  refine mj_ldc d_Mo_into_4 k_Mo_72 ?_
  refine mj_iand d_Mo_into_6 ?_
  refine mj_istore (L' := [some (.ref 27), some (.int x1), some (.int x2), some (.int x3), some (.int ((x1 + 32768) &&& 65535)), none, none]) d_Mo_into_7 (by decide) rfl rfl ?_
  refine mj_iload d_Mo_into_9 rfl ?_
  refine mj_iload_n d_Mo_into_11 rfl ?_
  refine mj_iadd d_Mo_into_12 ?_
  refine mj_iconst (v := 2) d_Mo_into_13 (by decide) ?_
  refine mj_idiv d_Mo_into_14 (by decide) ?_
  refine mj_istore (L' := [some (.ref 27), some (.int x1), some (.int x2), some (.int x3), some (.int ((x1 + 32768) &&& 65535)), some (.int ((((((x1 + 32768) &&& 65535)) + x2)) / 2)), none]) d_Mo_into_15 (by decide) rfl rfl ?_
  refine mj_iload d_Mo_into_17 rfl ?_
  refine mj_iload_n d_Mo_into_19 rfl ?_
  refine mj_isub d_Mo_into_20 ?_
  refine mj_istore (L' := [some (.ref 27), some (.int x1), some (.int x2), some (.int x3), some (.int ((x1 + 32768) &&& 65535)), some (.int ((((((x1 + 32768) &&& 65535)) + x2)) / 2)), some (.int ((((x1 + 32768) &&& 65535)) - x2))]) d_Mo_into_21 (by decide) rfl rfl ?_
  refine mj_iload d_Mo_into_23 rfl ?_
  refine mj_if_ge (tgt := 38) d_Mo_into_25 (by decide) (fun c_25 => ?_) (fun c_25 => ?_)
  · replace hk := og_pos c_25 hk
    refine mj_fg 1 (L' := [some (.ref 27), none, some (.int x2), some (.int x3), some (.int ((x1 + 32768) &&& 65535)), some (.int ((((((x1 + 32768) &&& 65535)) + x2)) / 2)), some (.int ((((x1 + 32768) &&& 65535)) - x2))]) rfl ?_
    refine mj_fg 2 (L' := [some (.ref 27), none, none, some (.int x3), some (.int ((x1 + 32768) &&& 65535)), some (.int ((((((x1 + 32768) &&& 65535)) + x2)) / 2)), some (.int ((((x1 + 32768) &&& 65535)) - x2))]) rfl ?_
    refine mj_fg 4 (L' := [some (.ref 27), none, none, some (.int x3), none, some (.int ((((((x1 + 32768) &&& 65535)) + x2)) / 2)), some (.int ((((x1 + 32768) &&& 65535)) - x2))]) rfl ?_
    exact tj_into_38 hl hk
  · replace hk := og_neg c_25 hk
    refine mj_iload d_Mo_into_28 rfl ?_
    refine mj_ldc d_Mo_into_30 k_Mo_81 ?_
    refine mj_iadd d_Mo_into_32 ?_
    refine mj_ldc d_Mo_into_33 k_Mo_72 ?_
    refine mj_iand d_Mo_into_35 ?_
    refine mj_istore (L' := [some (.ref 27), some (.int x1), some (.int x2), some (.int x3), some (.int ((x1 + 32768) &&& 65535)), some (.int ((((((((((x1 + 32768) &&& 65535)) + x2)) / 2)) + 32768)) &&& 65535)), some (.int ((((x1 + 32768) &&& 65535)) - x2))]) d_Mo_into_36 (by decide) rfl rfl ?_
    refine mj_fg 1 (L' := [some (.ref 27), none, some (.int x2), some (.int x3), some (.int ((x1 + 32768) &&& 65535)), some (.int ((((((((((x1 + 32768) &&& 65535)) + x2)) / 2)) + 32768)) &&& 65535)), some (.int ((((x1 + 32768) &&& 65535)) - x2))]) rfl ?_
    refine mj_fg 2 (L' := [some (.ref 27), none, none, some (.int x3), some (.int ((x1 + 32768) &&& 65535)), some (.int ((((((((((x1 + 32768) &&& 65535)) + x2)) / 2)) + 32768)) &&& 65535)), some (.int ((((x1 + 32768) &&& 65535)) - x2))]) rfl ?_
    refine mj_fg 4 (L' := [some (.ref 27), none, none, some (.int x3), none, some (.int ((((((((((x1 + 32768) &&& 65535)) + x2)) / 2)) + 32768)) &&& 65535)), some (.int ((((x1 + 32768) &&& 65535)) - x2))]) rfl ?_
    exact tj_into_38 hl hk
noncomputable def l_wave_14 (K : Int32 → Int32 → Int32 → Int32 → mo_G → Option mo_G) : Nat → Int32 → Int32 → Int32 → Int32 → Int32 → mo_G → Option mo_G
  | 0, _, _, _, _, _, _ => none
  | n + 1, x1, x2, x3, x4, x5, g => if x1 ≤ (x5 + x3) then (K x1 x2 x3 x4 g) else (og (vp_in (((8 * x4) + x5) : Int32) 64) (og (vp_in (((((8 * x4) + x5)) + x3) : Int32) 64) ((r_into (((g.2 11) (((8 * x4) + x5) : Int32).toNatClampNeg)) (((g.2 11) (((((8 * x4) + x5)) + x3) : Int32).toNatClampNeg)) 1 g).bind (fun z3 => og (vp_in (((8 * x4) + x5) : Int32) 64) (og (vp_in (((((8 * x4) + x5)) + x3) : Int32) 64) ((r_into (((z3.2.2 11) (((8 * x4) + x5) : Int32).toNatClampNeg)) (((z3.2.2 11) (((((8 * x4) + x5)) + x3) : Int32).toNatClampNeg)) 0 z3.2).bind (fun z6 => og (vp_in (((((8 * x4) + x5)) + (8 * x3)) : Int32) 64) (og (vp_in (((((((8 * x4) + x5)) + (8 * x3))) + x3) : Int32) 64) ((r_into (((z6.2.2 11) (((((8 * x4) + x5)) + (8 * x3)) : Int32).toNatClampNeg)) (((z6.2.2 11) (((((((8 * x4) + x5)) + (8 * x3))) + x3) : Int32).toNatClampNeg)) 1 z6.2).bind (fun z9 => og (vp_in (((((8 * x4) + x5)) + (8 * x3)) : Int32) 64) (og (vp_in (((((((8 * x4) + x5)) + (8 * x3))) + x3) : Int32) 64) ((r_into (((z9.2.2 11) (((((8 * x4) + x5)) + (8 * x3)) : Int32).toNatClampNeg)) (((z9.2.2 11) (((((((8 * x4) + x5)) + (8 * x3))) + x3) : Int32).toNatClampNeg)) 0 z9.2).bind (fun z12 => (r_into z3.1 z9.1 1 z12.2).bind (fun z13 => og (vp_in (((8 * x4) + x5) : Int32) 64) ((r_into z3.1 z9.1 0 (z13.2.1, mo_uA z13.2.2 11 (upd (z13.2.2 11) (((8 * x4) + x5) : Int32).toNatClampNeg z13.1))).bind (fun z15 => og (vp_in (((((8 * x4) + x5)) + (8 * x3)) : Int32) 64) ((r_into z6.1 z12.1 1 (z15.2.1, mo_uA z15.2.2 11 (upd (z15.2.2 11) (((((8 * x4) + x5)) + (8 * x3)) : Int32).toNatClampNeg z15.1))).bind (fun z17 => og (vp_in (((((8 * x4) + x5)) + x3) : Int32) 64) ((r_into z6.1 z12.1 0 (z17.2.1, mo_uA z17.2.2 11 (upd (z17.2.2 11) (((((8 * x4) + x5)) + x3) : Int32).toNatClampNeg z17.1))).bind (fun z19 => og (vp_in (((((((8 * x4) + x5)) + (8 * x3))) + x3) : Int32) 64) ((fun x1 x2 x3 x4 x5 g => l_wave_14 K n x1 x2 x3 x4 x5 g) x1 x2 x3 x4 ((x5 + (2 * x3))) (z19.2.1, mo_uA z19.2.2 11 (upd (z19.2.2 11) (((((((8 * x4) + x5)) + (8 * x3))) + x3) : Int32).toNatClampNeg z19.1)))))))))))))))))))))))
set_option maxRecDepth 100000 in
set_option maxHeartbeats 4000000 in
theorem tl_wave_14 {h : mj_H} {r : mo_G} (hl : 39 < h.length) {K : Int32 → Int32 → Int32 → Int32 → mo_G → Option mo_G} (hK : (∀ (x1 : Int32) (x2 : Int32) (x3 : Int32) (x4 : Int32) (g : mo_G), K x1 x2 x3 x4 g = some r → mj_W M_Mo_wave (mj_q none (mo_up h r)) (1, 26, none) 0 0 212 [some (.ref 27), some (.int x1), some (.int x2), some (.int x3), some (.int x4), none, none, none, none, none, none, none] [] (mo_up h g))) : ∀ (n : Nat) (x1 : Int32) (x2 : Int32) (x3 : Int32) (x4 : Int32) (x5 : Int32) (g : mo_G), l_wave_14 K n x1 x2 x3 x4 x5 g = some r → mj_W M_Mo_wave (mj_q none (mo_up h r)) (1, 26, none) 0 0 14 [some (.ref 27), some (.int x1), some (.int x2), some (.int x3), some (.int x4), some (.int x5), none, none, none, none, none, none] [] (mo_up h g) := by
  intro n
  induction n with
  | zero =>
    intro x1 x2 x3 x4 x5 g hk
    cases hk
  | succ n hbk =>
    intro x1 x2 x3 x4 x5 g hk
    rw [l_wave_14] at hk
    refine mj_iload d_Mo_wave_14 rfl ?_
    refine mj_iload_n d_Mo_wave_16 rfl ?_
    refine mj_iadd d_Mo_wave_17 ?_
    refine mj_iload_n d_Mo_wave_18 rfl ?_
    refine mj_icmp_ge (tgt := 212) d_Mo_wave_19 (by decide) (fun c_19 => ?_) (fun c_19 => ?_)
    · replace hk := og_pos c_19 hk
      refine mj_fg 5 (L' := [some (.ref 27), some (.int x1), some (.int x2), some (.int x3), some (.int x4), none, none, none, none, none, none, none]) rfl ?_
      exact hK _ _ _ _ _ hk
    · replace hk := og_neg c_19 hk
      refine mj_bipush (v := 8) d_Mo_wave_22 (by decide) ?_
      refine mj_iload d_Mo_wave_24 rfl ?_
      refine mj_imul d_Mo_wave_26 ?_
      refine mj_iload d_Mo_wave_27 rfl ?_
      refine mj_iadd d_Mo_wave_29 ?_
      refine mj_istore (L' := [some (.ref 27), some (.int x1), some (.int x2), some (.int x3), some (.int x4), some (.int x5), some (.int ((8 * x4) + x5)), none, none, none, none, none]) d_Mo_wave_30 (by decide) rfl rfl ?_
      refine mj_iload d_Mo_wave_32 rfl ?_
      refine mj_bipush (v := 8) d_Mo_wave_34 (by decide) ?_
      refine mj_iload_n d_Mo_wave_36 rfl ?_
      refine mj_imul d_Mo_wave_37 ?_
      refine mj_iadd d_Mo_wave_38 ?_
      refine mj_istore (L' := [some (.ref 27), some (.int x1), some (.int x2), some (.int x3), some (.int x4), some (.int x5), some (.int ((8 * x4) + x5)), some (.int ((((8 * x4) + x5)) + (8 * x3))), none, none, none, none]) d_Mo_wave_39 (by decide) rfl rfl ?_
      refine mj_aload_n d_Mo_wave_41 rfl ?_
      refine mj_aload_n d_Mo_wave_42 rfl ?_
      refine mj_get ok_Mo (k := 17) (v := .ref 39) (by decide) fl_Mo_56 d_Mo_wave_43 (mo_h hl) rfl ?_
      refine mj_iload d_Mo_wave_46 rfl ?_
      have q1 := og_1 hk
      replace hk := og_2 hk
      refine mj_iald (f := (g.2 11)) d_Mo_wave_48 (mo_a11 hl) q1 ?_
      refine mj_aload_n d_Mo_wave_49 rfl ?_
      refine mj_get ok_Mo (k := 17) (v := .ref 39) (by decide) fl_Mo_56 d_Mo_wave_50 (mo_h hl) rfl ?_
      refine mj_iload d_Mo_wave_53 rfl ?_
      refine mj_iload_n d_Mo_wave_55 rfl ?_
      refine mj_iadd d_Mo_wave_56 ?_
      have q2 := og_1 hk
      replace hk := og_2 hk
      refine mj_iald (f := (g.2 11)) d_Mo_wave_57 (mo_a11 hl) q2 ?_
      refine mj_iconst (v := 1) d_Mo_wave_58 (by decide) ?_
      obtain ⟨z3, hz3, hk⟩ := og_b hk
      refine mj_cV (S := []) (S1 := [.int z3.1]) (tm_into hl hz3) d_Mo_wave_59 cw_Mo_into ml_Mo_124 im_Mo_into se_Mo_into rfl (mo_h hl) (by decide) rfl (Nat.le_of_ble_eq_true rfl) rfl rfl ?_
      refine mj_istore (L' := [some (.ref 27), some (.int x1), some (.int x2), some (.int x3), some (.int x4), some (.int x5), some (.int ((8 * x4) + x5)), some (.int ((((8 * x4) + x5)) + (8 * x3))), some (.int z3.1), none, none, none]) d_Mo_wave_62 (by decide) rfl rfl ?_
      refine mj_aload_n d_Mo_wave_64 rfl ?_
      refine mj_aload_n d_Mo_wave_65 rfl ?_
      refine mj_get ok_Mo (k := 17) (v := .ref 39) (by decide) fl_Mo_56 d_Mo_wave_66 (mo_h hl) rfl ?_
      refine mj_iload d_Mo_wave_69 rfl ?_
      have q4 := og_1 hk
      replace hk := og_2 hk
      refine mj_iald (f := (z3.2.2 11)) d_Mo_wave_71 (mo_a11 hl) q4 ?_
      refine mj_aload_n d_Mo_wave_72 rfl ?_
      refine mj_get ok_Mo (k := 17) (v := .ref 39) (by decide) fl_Mo_56 d_Mo_wave_73 (mo_h hl) rfl ?_
      refine mj_iload d_Mo_wave_76 rfl ?_
      refine mj_iload_n d_Mo_wave_78 rfl ?_
      refine mj_iadd d_Mo_wave_79 ?_
      have q5 := og_1 hk
      replace hk := og_2 hk
      refine mj_iald (f := (z3.2.2 11)) d_Mo_wave_80 (mo_a11 hl) q5 ?_
      refine mj_iconst (v := 0) d_Mo_wave_81 (by decide) ?_
      obtain ⟨z6, hz6, hk⟩ := og_b hk
      refine mj_cV (S := []) (S1 := [.int z6.1]) (tm_into hl hz6) d_Mo_wave_82 cw_Mo_into ml_Mo_124 im_Mo_into se_Mo_into rfl (mo_h hl) (by decide) rfl (Nat.le_of_ble_eq_true rfl) rfl rfl ?_
      refine mj_istore (L' := [some (.ref 27), some (.int x1), some (.int x2), some (.int x3), some (.int x4), some (.int x5), some (.int ((8 * x4) + x5)), some (.int ((((8 * x4) + x5)) + (8 * x3))), some (.int z3.1), some (.int z6.1), none, none]) d_Mo_wave_85 (by decide) rfl rfl ?_
      refine mj_aload_n d_Mo_wave_87 rfl ?_
      refine mj_aload_n d_Mo_wave_88 rfl ?_
      refine mj_get ok_Mo (k := 17) (v := .ref 39) (by decide) fl_Mo_56 d_Mo_wave_89 (mo_h hl) rfl ?_
      refine mj_iload d_Mo_wave_92 rfl ?_
      have q7 := og_1 hk
      replace hk := og_2 hk
      refine mj_iald (f := (z6.2.2 11)) d_Mo_wave_94 (mo_a11 hl) q7 ?_
      refine mj_aload_n d_Mo_wave_95 rfl ?_
      refine mj_get ok_Mo (k := 17) (v := .ref 39) (by decide) fl_Mo_56 d_Mo_wave_96 (mo_h hl) rfl ?_
      refine mj_iload d_Mo_wave_99 rfl ?_
      refine mj_iload_n d_Mo_wave_101 rfl ?_
      refine mj_iadd d_Mo_wave_102 ?_
      have q8 := og_1 hk
      replace hk := og_2 hk
      refine mj_iald (f := (z6.2.2 11)) d_Mo_wave_103 (mo_a11 hl) q8 ?_
      refine mj_iconst (v := 1) d_Mo_wave_104 (by decide) ?_
      obtain ⟨z9, hz9, hk⟩ := og_b hk
      refine mj_cV (S := []) (S1 := [.int z9.1]) (tm_into hl hz9) d_Mo_wave_105 cw_Mo_into ml_Mo_124 im_Mo_into se_Mo_into rfl (mo_h hl) (by decide) rfl (Nat.le_of_ble_eq_true rfl) rfl rfl ?_
      refine mj_istore (L' := [some (.ref 27), some (.int x1), some (.int x2), some (.int x3), some (.int x4), some (.int x5), some (.int ((8 * x4) + x5)), some (.int ((((8 * x4) + x5)) + (8 * x3))), some (.int z3.1), some (.int z6.1), some (.int z9.1), none]) d_Mo_wave_108 (by decide) rfl rfl ?_
      refine mj_aload_n d_Mo_wave_110 rfl ?_
      refine mj_aload_n d_Mo_wave_111 rfl ?_
      refine mj_get ok_Mo (k := 17) (v := .ref 39) (by decide) fl_Mo_56 d_Mo_wave_112 (mo_h hl) rfl ?_
      refine mj_iload d_Mo_wave_115 rfl ?_
      have q10 := og_1 hk
      replace hk := og_2 hk
      refine mj_iald (f := (z9.2.2 11)) d_Mo_wave_117 (mo_a11 hl) q10 ?_
      refine mj_aload_n d_Mo_wave_118 rfl ?_
      refine mj_get ok_Mo (k := 17) (v := .ref 39) (by decide) fl_Mo_56 d_Mo_wave_119 (mo_h hl) rfl ?_
      refine mj_iload d_Mo_wave_122 rfl ?_
      refine mj_iload_n d_Mo_wave_124 rfl ?_
      refine mj_iadd d_Mo_wave_125 ?_
      have q11 := og_1 hk
      replace hk := og_2 hk
      refine mj_iald (f := (z9.2.2 11)) d_Mo_wave_126 (mo_a11 hl) q11 ?_
      refine mj_iconst (v := 0) d_Mo_wave_127 (by decide) ?_
      obtain ⟨z12, hz12, hk⟩ := og_b hk
      refine mj_cV (S := []) (S1 := [.int z12.1]) (tm_into hl hz12) d_Mo_wave_128 cw_Mo_into ml_Mo_124 im_Mo_into se_Mo_into rfl (mo_h hl) (by decide) rfl (Nat.le_of_ble_eq_true rfl) rfl rfl ?_
      refine mj_istore (L' := [some (.ref 27), some (.int x1), some (.int x2), some (.int x3), some (.int x4), some (.int x5), some (.int ((8 * x4) + x5)), some (.int ((((8 * x4) + x5)) + (8 * x3))), some (.int z3.1), some (.int z6.1), some (.int z9.1), some (.int z12.1)]) d_Mo_wave_131 (by decide) rfl rfl ?_
      refine mj_aload_n d_Mo_wave_133 rfl ?_
      refine mj_get ok_Mo (k := 17) (v := .ref 39) (by decide) fl_Mo_56 d_Mo_wave_134 (mo_h hl) rfl ?_
      refine mj_iload d_Mo_wave_137 rfl ?_
      refine mj_aload_n d_Mo_wave_139 rfl ?_
      refine mj_iload d_Mo_wave_140 rfl ?_
      refine mj_iload d_Mo_wave_142 rfl ?_
      refine mj_iconst (v := 1) d_Mo_wave_144 (by decide) ?_
      obtain ⟨z13, hz13, hk⟩ := og_b hk
      refine mj_cV (S := [.int ((8 * x4) + x5), .ref 39]) (S1 := [.int z13.1, .int ((8 * x4) + x5), .ref 39]) (tm_into hl hz13) d_Mo_wave_145 cw_Mo_into ml_Mo_124 im_Mo_into se_Mo_into rfl (mo_h hl) (by decide) rfl (Nat.le_of_ble_eq_true rfl) rfl rfl ?_
      have q14 := og_1 hk
      replace hk := og_2 hk
      refine mj_iast (f := (z13.2.2 11)) d_Mo_wave_148 (mo_a11 hl) q14 ?_
      refine mj_hp (h1 := mo_up h (z13.2.1, mo_uA z13.2.2 11 (upd (z13.2.2 11) (((8 * x4) + x5) : Int32).toNatClampNeg z13.1))) (mo_b11 (g := z13.2) hl (upd (z13.2.2 11) (((8 * x4) + x5) : Int32).toNatClampNeg z13.1)) ?_
      refine mj_aload_n d_Mo_wave_149 rfl ?_
      refine mj_get ok_Mo (k := 17) (v := .ref 39) (by decide) fl_Mo_56 d_Mo_wave_150 (mo_h hl) rfl ?_
      refine mj_iload d_Mo_wave_153 rfl ?_
      refine mj_aload_n d_Mo_wave_155 rfl ?_
      refine mj_iload d_Mo_wave_156 rfl ?_
      refine mj_iload d_Mo_wave_158 rfl ?_
      refine mj_iconst (v := 0) d_Mo_wave_160 (by decide) ?_
      obtain ⟨z15, hz15, hk⟩ := og_b hk
      refine mj_cV (S := [.int ((((8 * x4) + x5)) + (8 * x3)), .ref 39]) (S1 := [.int z15.1, .int ((((8 * x4) + x5)) + (8 * x3)), .ref 39]) (tm_into hl hz15) d_Mo_wave_161 cw_Mo_into ml_Mo_124 im_Mo_into se_Mo_into rfl (mo_h hl) (by decide) rfl (Nat.le_of_ble_eq_true rfl) rfl rfl ?_
      have q16 := og_1 hk
      replace hk := og_2 hk
      refine mj_iast (f := (z15.2.2 11)) d_Mo_wave_164 (mo_a11 hl) q16 ?_
      refine mj_hp (h1 := mo_up h (z15.2.1, mo_uA z15.2.2 11 (upd (z15.2.2 11) (((((8 * x4) + x5)) + (8 * x3)) : Int32).toNatClampNeg z15.1))) (mo_b11 (g := z15.2) hl (upd (z15.2.2 11) (((((8 * x4) + x5)) + (8 * x3)) : Int32).toNatClampNeg z15.1)) ?_
      refine mj_aload_n d_Mo_wave_165 rfl ?_
      refine mj_get ok_Mo (k := 17) (v := .ref 39) (by decide) fl_Mo_56 d_Mo_wave_166 (mo_h hl) rfl ?_
      refine mj_iload d_Mo_wave_169 rfl ?_
      refine mj_iload_n d_Mo_wave_171 rfl ?_
      refine mj_iadd d_Mo_wave_172 ?_
      refine mj_aload_n d_Mo_wave_173 rfl ?_
      refine mj_iload d_Mo_wave_174 rfl ?_
      refine mj_iload d_Mo_wave_176 rfl ?_
      refine mj_iconst (v := 1) d_Mo_wave_178 (by decide) ?_
      obtain ⟨z17, hz17, hk⟩ := og_b hk
      refine mj_cV (S := [.int ((((8 * x4) + x5)) + x3), .ref 39]) (S1 := [.int z17.1, .int ((((8 * x4) + x5)) + x3), .ref 39]) (tm_into hl hz17) d_Mo_wave_179 cw_Mo_into ml_Mo_124 im_Mo_into se_Mo_into rfl (mo_h hl) (by decide) rfl (Nat.le_of_ble_eq_true rfl) rfl rfl ?_
      have q18 := og_1 hk
      replace hk := og_2 hk
      refine mj_iast (f := (z17.2.2 11)) d_Mo_wave_182 (mo_a11 hl) q18 ?_
      refine mj_hp (h1 := mo_up h (z17.2.1, mo_uA z17.2.2 11 (upd (z17.2.2 11) (((((8 * x4) + x5)) + x3) : Int32).toNatClampNeg z17.1))) (mo_b11 (g := z17.2) hl (upd (z17.2.2 11) (((((8 * x4) + x5)) + x3) : Int32).toNatClampNeg z17.1)) ?_
      refine mj_aload_n d_Mo_wave_183 rfl ?_
      refine mj_get ok_Mo (k := 17) (v := .ref 39) (by decide) fl_Mo_56 d_Mo_wave_184 (mo_h hl) rfl ?_
      refine mj_iload d_Mo_wave_187 rfl ?_
      refine mj_iload_n d_Mo_wave_189 rfl ?_
      refine mj_iadd d_Mo_wave_190 ?_
      refine mj_aload_n d_Mo_wave_191 rfl ?_
      refine mj_iload d_Mo_wave_192 rfl ?_
      refine mj_iload d_Mo_wave_194 rfl ?_
      refine mj_iconst (v := 0) d_Mo_wave_196 (by decide) ?_
      obtain ⟨z19, hz19, hk⟩ := og_b hk
      refine mj_cV (S := [.int ((((((8 * x4) + x5)) + (8 * x3))) + x3), .ref 39]) (S1 := [.int z19.1, .int ((((((8 * x4) + x5)) + (8 * x3))) + x3), .ref 39]) (tm_into hl hz19) d_Mo_wave_197 cw_Mo_into ml_Mo_124 im_Mo_into se_Mo_into rfl (mo_h hl) (by decide) rfl (Nat.le_of_ble_eq_true rfl) rfl rfl ?_
      have q20 := og_1 hk
      replace hk := og_2 hk
      refine mj_iast (f := (z19.2.2 11)) d_Mo_wave_200 (mo_a11 hl) q20 ?_
      refine mj_hp (h1 := mo_up h (z19.2.1, mo_uA z19.2.2 11 (upd (z19.2.2 11) (((((((8 * x4) + x5)) + (8 * x3))) + x3) : Int32).toNatClampNeg z19.1))) (mo_b11 (g := z19.2) hl (upd (z19.2.2 11) (((((((8 * x4) + x5)) + (8 * x3))) + x3) : Int32).toNatClampNeg z19.1)) ?_
      refine mj_iload d_Mo_wave_201 rfl ?_
      refine mj_iconst (v := 2) d_Mo_wave_203 (by decide) ?_
      refine mj_iload_n d_Mo_wave_204 rfl ?_
      refine mj_imul d_Mo_wave_205 ?_
      refine mj_iadd d_Mo_wave_206 ?_
      refine mj_istore (L' := [some (.ref 27), some (.int x1), some (.int x2), some (.int x3), some (.int x4), some (.int (x5 + (2 * x3))), some (.int ((8 * x4) + x5)), some (.int ((((8 * x4) + x5)) + (8 * x3))), some (.int z3.1), some (.int z6.1), some (.int z9.1), some (.int z12.1)]) d_Mo_wave_207 (by decide) rfl rfl ?_
      refine mj_goto (tgt := 14) d_Mo_wave_209 (by decide) ?_
      refine mj_fg 6 (L' := [some (.ref 27), some (.int x1), some (.int x2), some (.int x3), some (.int x4), some (.int (x5 + (2 * x3))), none, some (.int ((((8 * x4) + x5)) + (8 * x3))), some (.int z3.1), some (.int z6.1), some (.int z9.1), some (.int z12.1)]) rfl ?_
      refine mj_fg 7 (L' := [some (.ref 27), some (.int x1), some (.int x2), some (.int x3), some (.int x4), some (.int (x5 + (2 * x3))), none, none, some (.int z3.1), some (.int z6.1), some (.int z9.1), some (.int z12.1)]) rfl ?_
      refine mj_fg 8 (L' := [some (.ref 27), some (.int x1), some (.int x2), some (.int x3), some (.int x4), some (.int (x5 + (2 * x3))), none, none, none, some (.int z6.1), some (.int z9.1), some (.int z12.1)]) rfl ?_
      refine mj_fg 9 (L' := [some (.ref 27), some (.int x1), some (.int x2), some (.int x3), some (.int x4), some (.int (x5 + (2 * x3))), none, none, none, none, some (.int z9.1), some (.int z12.1)]) rfl ?_
      refine mj_fg 10 (L' := [some (.ref 27), some (.int x1), some (.int x2), some (.int x3), some (.int x4), some (.int (x5 + (2 * x3))), none, none, none, none, none, some (.int z12.1)]) rfl ?_
      refine mj_fg 11 (L' := [some (.ref 27), some (.int x1), some (.int x2), some (.int x3), some (.int x4), some (.int (x5 + (2 * x3))), none, none, none, none, none, none]) rfl ?_
      exact hbk _ _ _ _ _ _ hk
noncomputable def l_wave_3 (K : mo_G → Option mo_G) : Nat → Int32 → Int32 → Int32 → Int32 → mo_G → Option mo_G
  | 0, _, _, _, _, _ => none
  | n + 1, x1, x2, x3, x4, g => if x2 ≤ (x4 + x3) then (K g) else (l_wave_14 (fun y22 y23 y24 y25 g21 => (fun x1 x2 x3 x4 g => l_wave_3 K n x1 x2 x3 x4 g) y22 y23 y24 ((y25 + (2 * y24))) g21) 2000 x1 x2 x3 x4 0 g)
set_option maxRecDepth 100000 in
set_option maxHeartbeats 4000000 in
theorem tl_wave_3 {h : mj_H} {r : mo_G} (hl : 39 < h.length) {K : mo_G → Option mo_G} (hK : (∀ (g : mo_G), K g = some r → mj_W M_Mo_wave (mj_q none (mo_up h r)) (1, 26, none) 0 0 223 [some (.ref 27), none, none, none, none, none, none, none, none, none, none, none] [] (mo_up h g))) : ∀ (n : Nat) (x1 : Int32) (x2 : Int32) (x3 : Int32) (x4 : Int32) (g : mo_G), l_wave_3 K n x1 x2 x3 x4 g = some r → mj_W M_Mo_wave (mj_q none (mo_up h r)) (1, 26, none) 0 0 3 [some (.ref 27), some (.int x1), some (.int x2), some (.int x3), some (.int x4), none, none, none, none, none, none, none] [] (mo_up h g) := by
  intro n
  induction n with
  | zero =>
    intro x1 x2 x3 x4 g hk
    cases hk
  | succ n hbk =>
    intro x1 x2 x3 x4 g hk
    rw [l_wave_3] at hk
    refine mj_iload d_Mo_wave_3 rfl ?_
    refine mj_iload_n d_Mo_wave_5 rfl ?_
    refine mj_iadd d_Mo_wave_6 ?_
    refine mj_iload_n d_Mo_wave_7 rfl ?_
    refine mj_icmp_ge (tgt := 223) d_Mo_wave_8 (by decide) (fun c_8 => ?_) (fun c_8 => ?_)
    · replace hk := og_pos c_8 hk
      refine mj_fg 1 (L' := [some (.ref 27), none, some (.int x2), some (.int x3), some (.int x4), none, none, none, none, none, none, none]) rfl ?_
      refine mj_fg 2 (L' := [some (.ref 27), none, none, some (.int x3), some (.int x4), none, none, none, none, none, none, none]) rfl ?_
      refine mj_fg 3 (L' := [some (.ref 27), none, none, none, some (.int x4), none, none, none, none, none, none, none]) rfl ?_
      refine mj_fg 4 (L' := [some (.ref 27), none, none, none, none, none, none, none, none, none, none, none]) rfl ?_
      exact hK _ hk
    · replace hk := og_neg c_8 hk
      refine mj_iconst (v := 0) d_Mo_wave_11 (by decide) ?_
      refine mj_istore (L' := [some (.ref 27), some (.int x1), some (.int x2), some (.int x3), some (.int x4), some (.int 0), none, none, none, none, none, none]) d_Mo_wave_12 (by decide) rfl rfl ?_
      refine tl_wave_14 hl ?_ 2000 _ _ _ _ _ _ hk
      intro y22 y23 y24 y25 g21 hk
      refine mj_iload d_Mo_wave_212 rfl ?_
      refine mj_iconst (v := 2) d_Mo_wave_214 (by decide) ?_
      refine mj_iload_n d_Mo_wave_215 rfl ?_
      refine mj_imul d_Mo_wave_216 ?_
      refine mj_iadd d_Mo_wave_217 ?_
      refine mj_istore (L' := [some (.ref 27), some (.int y22), some (.int y23), some (.int y24), some (.int (y25 + (2 * y24))), none, none, none, none, none, none, none]) d_Mo_wave_218 (by decide) rfl rfl ?_
      refine mj_goto (tgt := 3) d_Mo_wave_220 (by decide) ?_
      exact hbk _ _ _ _ _ hk
noncomputable def r_wave (x1 : Int32) (x2 : Int32) (x3 : Int32) (g : mo_G) : Option mo_G := l_wave_3 (fun  g26 => some g26) 2000 x1 x2 x3 0 g
set_option maxRecDepth 100000 in
set_option maxHeartbeats 4000000 in
theorem tm_wave {h : mj_H} {r : mo_G} (hl : 39 < h.length) {x1 : Int32} {x2 : Int32} {x3 : Int32} {g : mo_G} (hk : r_wave x1 x2 x3 g = some r) : mj_Met M_Mo_wave (1, 26, none) 0 0 [.ref 27, .int x1, .int x2, .int x3] (mo_up h g) (mj_q none (mo_up h r)) := by
  unfold r_wave at hk
  refine mj_enter (r := 8) rfl rfl (by decide) rfl ?_
  show mj_W M_Mo_wave _ _ _ _ 0 [some (.ref 27), some (.int x1), some (.int x2), some (.int x3), none, none, none, none, none, none, none, none] [] (mo_up h g)
  refine mj_iconst (v := 0) d_Mo_wave_0 (by decide) ?_
  refine mj_istore (L' := [some (.ref 27), some (.int x1), some (.int x2), some (.int x3), some (.int 0), none, none, none, none, none, none, none]) d_Mo_wave_1 (by decide) rfl rfl ?_
  refine tl_wave_3 hl ?_ 2000 _ _ _ _ _ hk
  intro  g26 hk
  cases hk
  exact mj_vret rfl d_Mo_wave_223 ⟨rfl, rfl⟩
noncomputable def l_waves_98 (K : Int32 → Int32 → Int32 → Int32 → Int32 → Int32 → Int32 → Int32 → mo_G → Option mo_G) : Nat → Int32 → Int32 → Int32 → Int32 → Int32 → Int32 → Int32 → Int32 → Int32 → mo_G → Option mo_G
  | 0, _, _, _, _, _, _, _, _, _, _ => none
  | n + 1, x1, x2, x3, x4, x5, x6, x7, x8, x9, g => if x4 ≤ x9 then (K x1 x2 x3 x4 x5 x6 x7 x8 g) else (og (vp_in (x3 : Int32) 3) (og (vp_in (((((64 * x3) + (8 * x8))) + (((((g.2 2) (x3 : Int32).toNatClampNeg)) * x9))) : Int32) 192) (og (vp_in (((8 * x7) + x9) : Int32) 64) ((fun x1 x2 x3 x4 x5 x6 x7 x8 x9 g => l_waves_98 K n x1 x2 x3 x4 x5 x6 x7 x8 x9 g) x1 x2 x3 x4 x5 x6 x7 x8 (x9 + 1) (g.1, mo_uA g.2 11 (upd (g.2 11) (((8 * x7) + x9) : Int32).toNatClampNeg (((((((g.2 3) (((((64 * x3) + (8 * x8))) + (((((g.2 2) (x3 : Int32).toNatClampNeg)) * x9))) : Int32).toNatClampNeg)) >>> ((16 * x6) &&& 31))) &&& 65535))))))))
set_option maxRecDepth 100000 in
set_option maxHeartbeats 4000000 in
theorem tl_waves_98 {h : mj_H} {r : mo_G} (hl : 39 < h.length) {K : Int32 → Int32 → Int32 → Int32 → Int32 → Int32 → Int32 → Int32 → mo_G → Option mo_G} (hK : (∀ (x1 : Int32) (x2 : Int32) (x3 : Int32) (x4 : Int32) (x5 : Int32) (x6 : Int32) (x7 : Int32) (x8 : Int32) (g : mo_G), K x1 x2 x3 x4 x5 x6 x7 x8 g = some r → mj_W M_Mo_waves (mj_q none (mo_up h r)) (2, 57, none) 0 0 158 [some (.ref 27), some (.int x1), some (.int x2), some (.int x3), some (.int x4), some (.int x5), some (.int x6), some (.int x7), some (.int x8), none] [] (mo_up h g))) : ∀ (n : Nat) (x1 : Int32) (x2 : Int32) (x3 : Int32) (x4 : Int32) (x5 : Int32) (x6 : Int32) (x7 : Int32) (x8 : Int32) (x9 : Int32) (g : mo_G), l_waves_98 K n x1 x2 x3 x4 x5 x6 x7 x8 x9 g = some r → mj_W M_Mo_waves (mj_q none (mo_up h r)) (2, 57, none) 0 0 98 [some (.ref 27), some (.int x1), some (.int x2), some (.int x3), some (.int x4), some (.int x5), some (.int x6), some (.int x7), some (.int x8), some (.int x9)] [] (mo_up h g) := by
  intro n
  induction n with
  | zero =>
    intro x1 x2 x3 x4 x5 x6 x7 x8 x9 g hk
    cases hk
  | succ n hbk =>
    intro x1 x2 x3 x4 x5 x6 x7 x8 x9 g hk
    rw [l_waves_98] at hk
    refine mj_iload d_Mo_waves_98 rfl ?_
    refine mj_iload d_Mo_waves_100 rfl ?_
    refine mj_icmp_ge (tgt := 158) d_Mo_waves_102 (by decide) (fun c_102 => ?_) (fun c_102 => ?_)
    · replace hk := og_pos c_102 hk
      refine mj_fg 9 (L' := [some (.ref 27), some (.int x1), some (.int x2), some (.int x3), some (.int x4), some (.int x5), some (.int x6), some (.int x7), some (.int x8), none]) rfl ?_
      exact hK _ _ _ _ _ _ _ _ _ hk
    · replace hk := og_neg c_102 hk
      refine mj_aload_n d_Mo_waves_105 rfl ?_
      refine mj_get ok_Mo (k := 17) (v := .ref 39) (by decide) fl_Mo_56 d_Mo_waves_106 (mo_h hl) rfl ?_
      refine mj_bipush (v := 8) d_Mo_waves_109 (by decide) ?_
      refine mj_iload d_Mo_waves_111 rfl ?_
      refine mj_imul d_Mo_waves_113 ?_
      refine mj_iload d_Mo_waves_114 rfl ?_
      refine mj_iadd d_Mo_waves_116 ?_
      refine mj_aload_n d_Mo_waves_117 rfl ?_
      refine mj_get ok_Mo (k := 9) (v := .ref 31) (by decide) fl_Mo_32 d_Mo_waves_118 (mo_h hl) rfl ?_
      refine mj_bipush (v := 64) d_Mo_waves_121 (by decide) ?_
      refine mj_iload_n d_Mo_waves_123 rfl ?_
      refine mj_imul d_Mo_waves_124 ?_
      refine mj_bipush (v := 8) d_Mo_waves_125 (by decide) ?_
      refine mj_iload d_Mo_waves_127 rfl ?_
      refine mj_imul d_Mo_waves_129 ?_
      refine mj_iadd d_Mo_waves_130 ?_
      refine mj_aload_n d_Mo_waves_131 rfl ?_
      refine mj_get ok_Mo (k := 8) (v := .ref 30) (by decide) fl_Mo_29 d_Mo_waves_132 (mo_h hl) rfl ?_
      refine mj_iload_n d_Mo_waves_135 rfl ?_
      have q8 := og_1 hk
      replace hk := og_2 hk
      refine mj_iald (f := (g.2 2)) d_Mo_waves_136 (mo_a2 hl) q8 ?_
      refine mj_iload d_Mo_waves_137 rfl ?_
      refine mj_imul d_Mo_waves_139 ?_
      refine mj_iadd d_Mo_waves_140 ?_
      have q9 := og_1 hk
      replace hk := og_2 hk
      refine mj_iald (f := (g.2 3)) d_Mo_waves_141 (mo_a3 hl) q9 ?_
      refine mj_bipush (v := 16) d_Mo_waves_142 (by decide) ?_
      refine mj_iload d_Mo_waves_144 rfl ?_
      refine mj_imul d_Mo_waves_146 ?_
      refine mj_ishr d_Mo_waves_147 ?_
      refine mj_ldc d_Mo_waves_148 k_Mo_72 ?_
      refine mj_iand d_Mo_waves_150 ?_
      have q10 := og_1 hk
      replace hk := og_2 hk
      refine mj_iast (f := (g.2 11)) d_Mo_waves_151 (mo_a11 hl) q10 ?_
      refine mj_hp (h1 := mo_up h (g.1, mo_uA g.2 11 (upd (g.2 11) (((8 * x7) + x9) : Int32).toNatClampNeg (((((((g.2 3) (((((64 * x3) + (8 * x8))) + (((((g.2 2) (x3 : Int32).toNatClampNeg)) * x9))) : Int32).toNatClampNeg)) >>> ((16 * x6) &&& 31))) &&& 65535))))) (mo_b11 (g := g) hl (upd (g.2 11) (((8 * x7) + x9) : Int32).toNatClampNeg (((((((g.2 3) (((((64 * x3) + (8 * x8))) + (((((g.2 2) (x3 : Int32).toNatClampNeg)) * x9))) : Int32).toNatClampNeg)) >>> ((16 * x6) &&& 31))) &&& 65535)))) ?_
      refine mj_iinc (x := x9) (v := x9 + 1) (L' := [some (.ref 27), some (.int x1), some (.int x2), some (.int x3), some (.int x4), some (.int x5), some (.int x6), some (.int x7), some (.int x8), some (.int (x9 + 1))]) d_Mo_waves_152 rfl rfl (by decide) rfl rfl ?_
      refine mj_goto (tgt := 98) d_Mo_waves_155 (by decide) ?_
      exact hbk _ _ _ _ _ _ _ _ _ _ hk
noncomputable def j_waves_161 (K : Int32 → Int32 → Int32 → Int32 → Int32 → Int32 → mo_G → Option mo_G) (bk : Int32 → Int32 → Int32 → Int32 → Int32 → Int32 → Int32 → Int32 → mo_G → Option mo_G) (x1 : Int32) (x2 : Int32) (x3 : Int32) (x4 : Int32) (x5 : Int32) (x6 : Int32) (x7 : Int32) (x8 : Int32) (g : mo_G) : Option mo_G := bk x1 x2 x3 x4 x5 x6 x7 (x8 + 1) g
set_option maxRecDepth 100000 in
set_option maxHeartbeats 4000000 in
theorem tj_waves_161 {h : mj_H} {r : mo_G} (hl : 39 < h.length) {K : Int32 → Int32 → Int32 → Int32 → Int32 → Int32 → mo_G → Option mo_G} {bk : Int32 → Int32 → Int32 → Int32 → Int32 → Int32 → Int32 → Int32 → mo_G → Option mo_G} (hK : (∀ (x1 : Int32) (x2 : Int32) (x3 : Int32) (x4 : Int32) (x5 : Int32) (x6 : Int32) (g : mo_G), K x1 x2 x3 x4 x5 x6 g = some r → mj_W M_Mo_waves (mj_q none (mo_up h r)) (2, 57, none) 0 0 167 [some (.ref 27), some (.int x1), some (.int x2), some (.int x3), some (.int x4), some (.int x5), some (.int x6), none, none, none] [] (mo_up h g))) (hbk : (∀ (x1 : Int32) (x2 : Int32) (x3 : Int32) (x4 : Int32) (x5 : Int32) (x6 : Int32) (x7 : Int32) (x8 : Int32) (g : mo_G), bk x1 x2 x3 x4 x5 x6 x7 x8 g = some r → mj_W M_Mo_waves (mj_q none (mo_up h r)) (2, 57, none) 0 0 72 [some (.ref 27), some (.int x1), some (.int x2), some (.int x3), some (.int x4), some (.int x5), some (.int x6), some (.int x7), some (.int x8), none] [] (mo_up h g))) {x1 : Int32} {x2 : Int32} {x3 : Int32} {x4 : Int32} {x5 : Int32} {x6 : Int32} {x7 : Int32} {x8 : Int32} {g : mo_G} (hk : j_waves_161 K bk x1 x2 x3 x4 x5 x6 x7 x8 g = some r) : mj_W M_Mo_waves (mj_q none (mo_up h r)) (2, 57, none) 0 0 161 [some (.ref 27), some (.int x1), some (.int x2), some (.int x3), some (.int x4), some (.int x5), some (.int x6), some (.int x7), some (.int x8), none] [] (mo_up h g) := by
  unfold j_waves_161 at hk
  refine mj_iinc (x := x8) (v := x8 + 1) (L' := [some (.ref 27), some (.int x1), some (.int x2), some (.int x3), some (.int x4), some (.int x5), some (.int x6), some (.int x7), some (.int (x8 + 1)), none]) d_Mo_waves_161 rfl rfl (by decide) rfl rfl ?_
  refine mj_goto (tgt := 72) d_Mo_waves_164 (by decide) ?_
  exact hbk _ _ _ _ _ _ _ _ _ hk
noncomputable def l_waves_72 (K : Int32 → Int32 → Int32 → Int32 → Int32 → Int32 → mo_G → Option mo_G) : Nat → Int32 → Int32 → Int32 → Int32 → Int32 → Int32 → Int32 → Int32 → mo_G → Option mo_G
  | 0, _, _, _, _, _, _, _, _, _ => none
  | n + 1, x1, x2, x3, x4, x5, x6, x7, x8, g => if (x1 + x2) ≤ x8 then (K x1 x2 x3 x4 x5 x6 g) else (og (vp_in (x3 : Int32) 3) (og (¬ (((g.2 2) (x3 : Int32).toNatClampNeg)) = 0) (if ((x8 - x8 / (((g.2 2) (x3 : Int32).toNatClampNeg)) * (((g.2 2) (x3 : Int32).toNatClampNeg)))) = 0 then (l_waves_98 (fun y12 y13 y14 y15 y16 y17 y18 y19 g11 => j_waves_161 K (fun x1 x2 x3 x4 x5 x6 x7 x8 g => l_waves_72 K n x1 x2 x3 x4 x5 x6 x7 x8 g) y12 y13 y14 y15 y16 y17 (y18 + 1) y19 g11) 2000 x1 x2 x3 x4 x5 x6 x7 x8 0 g) else (j_waves_161 K (fun x1 x2 x3 x4 x5 x6 x7 x8 g => l_waves_72 K n x1 x2 x3 x4 x5 x6 x7 x8 g) x1 x2 x3 x4 x5 x6 x7 x8 g))))
set_option maxRecDepth 100000 in
set_option maxHeartbeats 4000000 in
theorem tl_waves_72 {h : mj_H} {r : mo_G} (hl : 39 < h.length) {K : Int32 → Int32 → Int32 → Int32 → Int32 → Int32 → mo_G → Option mo_G} (hK : (∀ (x1 : Int32) (x2 : Int32) (x3 : Int32) (x4 : Int32) (x5 : Int32) (x6 : Int32) (g : mo_G), K x1 x2 x3 x4 x5 x6 g = some r → mj_W M_Mo_waves (mj_q none (mo_up h r)) (2, 57, none) 0 0 167 [some (.ref 27), some (.int x1), some (.int x2), some (.int x3), some (.int x4), some (.int x5), some (.int x6), none, none, none] [] (mo_up h g))) : ∀ (n : Nat) (x1 : Int32) (x2 : Int32) (x3 : Int32) (x4 : Int32) (x5 : Int32) (x6 : Int32) (x7 : Int32) (x8 : Int32) (g : mo_G), l_waves_72 K n x1 x2 x3 x4 x5 x6 x7 x8 g = some r → mj_W M_Mo_waves (mj_q none (mo_up h r)) (2, 57, none) 0 0 72 [some (.ref 27), some (.int x1), some (.int x2), some (.int x3), some (.int x4), some (.int x5), some (.int x6), some (.int x7), some (.int x8), none] [] (mo_up h g) := by
  intro n
  induction n with
  | zero =>
    intro x1 x2 x3 x4 x5 x6 x7 x8 g hk
    cases hk
  | succ n hbk =>
    intro x1 x2 x3 x4 x5 x6 x7 x8 g hk
    rw [l_waves_72] at hk
    refine mj_iload d_Mo_waves_72 rfl ?_
    refine mj_iload_n d_Mo_waves_74 rfl ?_
    refine mj_iload_n d_Mo_waves_75 rfl ?_
    refine mj_iadd d_Mo_waves_76 ?_
    refine mj_icmp_ge (tgt := 167) d_Mo_waves_77 (by decide) (fun c_77 => ?_) (fun c_77 => ?_)
    · replace hk := og_pos c_77 hk
      refine mj_fg 7 (L' := [some (.ref 27), some (.int x1), some (.int x2), some (.int x3), some (.int x4), some (.int x5), some (.int x6), none, some (.int x8), none]) rfl ?_
      refine mj_fg 8 (L' := [some (.ref 27), some (.int x1), some (.int x2), some (.int x3), some (.int x4), some (.int x5), some (.int x6), none, none, none]) rfl ?_
      exact hK _ _ _ _ _ _ _ hk
    · replace hk := og_neg c_77 hk
      refine mj_iload d_Mo_waves_80 rfl ?_
      refine mj_aload_n d_Mo_waves_82 rfl ?_
      refine mj_get ok_Mo (k := 8) (v := .ref 30) (by decide) fl_Mo_29 d_Mo_waves_83 (mo_h hl) rfl ?_
      refine mj_iload_n d_Mo_waves_86 rfl ?_
      have q6 := og_1 hk
      replace hk := og_2 hk
      refine mj_iald (f := (g.2 2)) d_Mo_waves_87 (mo_a2 hl) q6 ?_
      have q7 := og_1 hk
      replace hk := og_2 hk
      refine mj_irem d_Mo_waves_88 q7 ?_
      refine mj_if_eq (tgt := 95) d_Mo_waves_89 (by decide) (fun c_89 => ?_) (fun c_89 => ?_)
      · replace hk := og_pos c_89 hk
        refine mj_iconst (v := 0) d_Mo_waves_95 (by decide) ?_
        refine mj_istore (L' := [some (.ref 27), some (.int x1), some (.int x2), some (.int x3), some (.int x4), some (.int x5), some (.int x6), some (.int x7), some (.int x8), some (.int 0)]) d_Mo_waves_96 (by decide) rfl rfl ?_
        refine tl_waves_98 hl ?_ 2000 _ _ _ _ _ _ _ _ _ _ hk
        intro y12 y13 y14 y15 y16 y17 y18 y19 g11 hk
        refine mj_iinc (x := y18) (v := y18 + 1) (L' := [some (.ref 27), some (.int y12), some (.int y13), some (.int y14), some (.int y15), some (.int y16), some (.int y17), some (.int (y18 + 1)), some (.int y19), none]) d_Mo_waves_158 rfl rfl (by decide) rfl rfl ?_
        exact tj_waves_161 hl hK hbk hk
      · replace hk := og_neg c_89 hk
        refine mj_goto (tgt := 161) d_Mo_waves_92 (by decide) ?_
        exact tj_waves_161 hl hK hbk hk
noncomputable def l_waves_170 (K : Int32 → Int32 → Int32 → Int32 → Int32 → Int32 → mo_G → Option mo_G) : Nat → Int32 → Int32 → Int32 → Int32 → Int32 → Int32 → Int32 → mo_G → Option mo_G
  | 0, _, _, _, _, _, _, _, _ => none
  | n + 1, x1, x2, x3, x4, x5, x6, x8, g => (r_least x4 x5).bind (fun z27 => if z27 < (2 * x8) then (K x1 x2 x3 x4 x5 x6 g) else ((r_wave x4 x5 x8 g).bind (fun z28 => (fun x1 x2 x3 x4 x5 x6 x8 g => l_waves_170 K n x1 x2 x3 x4 x5 x6 x8 g) x1 x2 x3 x4 x5 x6 (2 * x8) z28)))
set_option maxRecDepth 100000 in
set_option maxHeartbeats 4000000 in
theorem tl_waves_170 {h : mj_H} {r : mo_G} (hl : 39 < h.length) {K : Int32 → Int32 → Int32 → Int32 → Int32 → Int32 → mo_G → Option mo_G} (hK : (∀ (x1 : Int32) (x2 : Int32) (x3 : Int32) (x4 : Int32) (x5 : Int32) (x6 : Int32) (g : mo_G), K x1 x2 x3 x4 x5 x6 g = some r → mj_W M_Mo_waves (mj_q none (mo_up h r)) (2, 57, none) 0 0 203 [some (.ref 27), some (.int x1), some (.int x2), some (.int x3), some (.int x4), some (.int x5), some (.int x6), none, none, none] [] (mo_up h g))) : ∀ (n : Nat) (x1 : Int32) (x2 : Int32) (x3 : Int32) (x4 : Int32) (x5 : Int32) (x6 : Int32) (x8 : Int32) (g : mo_G), l_waves_170 K n x1 x2 x3 x4 x5 x6 x8 g = some r → mj_W M_Mo_waves (mj_q none (mo_up h r)) (2, 57, none) 0 0 170 [some (.ref 27), some (.int x1), some (.int x2), some (.int x3), some (.int x4), some (.int x5), some (.int x6), none, some (.int x8), none] [] (mo_up h g) := by
  intro n
  induction n with
  | zero =>
    intro x1 x2 x3 x4 x5 x6 x8 g hk
    cases hk
  | succ n hbk =>
    intro x1 x2 x3 x4 x5 x6 x8 g hk
    rw [l_waves_170] at hk
    refine mj_iconst (v := 2) d_Mo_waves_170 (by decide) ?_
    refine mj_iload d_Mo_waves_171 rfl ?_
    refine mj_imul d_Mo_waves_173 ?_
    refine mj_iload d_Mo_waves_174 rfl ?_
    refine mj_iload d_Mo_waves_176 rfl ?_
    obtain ⟨z27, hz27, hk⟩ := og_b hk
    refine mj_cS (S := [.int (2 * x8)]) (S1 := [.int z27, .int (2 * x8)]) (tm_least hz27) d_Mo_waves_178 cw_Mo_least ml_Mo_139 st_Mo_least (by decide) rfl (Nat.le_of_ble_eq_true rfl) rfl rfl ?_
    refine mj_icmp_gt (tgt := 203) d_Mo_waves_181 (by decide) (fun c_181 => ?_) (fun c_181 => ?_)
    · replace hk := og_pos c_181 hk
      refine mj_fg 8 (L' := [some (.ref 27), some (.int x1), some (.int x2), some (.int x3), some (.int x4), some (.int x5), some (.int x6), none, none, none]) rfl ?_
      exact hK _ _ _ _ _ _ _ hk
    · replace hk := og_neg c_181 hk
      refine mj_aload_n d_Mo_waves_184 rfl ?_
      refine mj_iload d_Mo_waves_185 rfl ?_
      refine mj_iload d_Mo_waves_187 rfl ?_
      refine mj_iload d_Mo_waves_189 rfl ?_
      obtain ⟨z28, hz28, hk⟩ := og_b hk
      refine mj_cV (S := []) (S1 := []) (tm_wave hl hz28) d_Mo_waves_191 cw_Mo_wave ml_Mo_142 im_Mo_wave se_Mo_wave rfl (mo_h hl) (by decide) rfl (Nat.le_of_ble_eq_true rfl) rfl rfl ?_
      refine mj_iconst (v := 2) d_Mo_waves_194 (by decide) ?_
      refine mj_iload d_Mo_waves_195 rfl ?_
      refine mj_imul d_Mo_waves_197 ?_
      refine mj_istore (L' := [some (.ref 27), some (.int x1), some (.int x2), some (.int x3), some (.int x4), some (.int x5), some (.int x6), none, some (.int (2 * x8)), none]) d_Mo_waves_198 (by decide) rfl rfl ?_
      refine mj_goto (tgt := 170) d_Mo_waves_200 (by decide) ?_
      exact hbk _ _ _ _ _ _ _ _ hk
noncomputable def l_waves_216 (K : Int32 → Int32 → Int32 → Int32 → Int32 → Int32 → Int32 → mo_G → Option mo_G) : Nat → Int32 → Int32 → Int32 → Int32 → Int32 → Int32 → Int32 → Int32 → mo_G → Option mo_G
  | 0, _, _, _, _, _, _, _, _, _ => none
  | n + 1, x1, x2, x3, x4, x5, x6, x8, x9, g => if x4 ≤ x9 then (K x1 x2 x3 x4 x5 x6 x8 g) else (og (vp_in (((8 * x8) + x9) : Int32) 64) ((r_putMany (((g.2 11) (((8 * x8) + x9) : Int32).toNatClampNeg)) 2 g).bind (fun z37 => (fun x1 x2 x3 x4 x5 x6 x8 x9 g => l_waves_216 K n x1 x2 x3 x4 x5 x6 x8 x9 g) x1 x2 x3 x4 x5 x6 x8 (x9 + 1) z37)))
set_option maxRecDepth 100000 in
set_option maxHeartbeats 4000000 in
theorem tl_waves_216 {h : mj_H} {r : mo_G} (hl : 39 < h.length) {K : Int32 → Int32 → Int32 → Int32 → Int32 → Int32 → Int32 → mo_G → Option mo_G} (hK : (∀ (x1 : Int32) (x2 : Int32) (x3 : Int32) (x4 : Int32) (x5 : Int32) (x6 : Int32) (x8 : Int32) (g : mo_G), K x1 x2 x3 x4 x5 x6 x8 g = some r → mj_W M_Mo_waves (mj_q none (mo_up h r)) (2, 57, none) 0 0 247 [some (.ref 27), some (.int x1), some (.int x2), some (.int x3), some (.int x4), some (.int x5), some (.int x6), none, some (.int x8), none] [] (mo_up h g))) : ∀ (n : Nat) (x1 : Int32) (x2 : Int32) (x3 : Int32) (x4 : Int32) (x5 : Int32) (x6 : Int32) (x8 : Int32) (x9 : Int32) (g : mo_G), l_waves_216 K n x1 x2 x3 x4 x5 x6 x8 x9 g = some r → mj_W M_Mo_waves (mj_q none (mo_up h r)) (2, 57, none) 0 0 216 [some (.ref 27), some (.int x1), some (.int x2), some (.int x3), some (.int x4), some (.int x5), some (.int x6), none, some (.int x8), some (.int x9)] [] (mo_up h g) := by
  intro n
  induction n with
  | zero =>
    intro x1 x2 x3 x4 x5 x6 x8 x9 g hk
    cases hk
  | succ n hbk =>
    intro x1 x2 x3 x4 x5 x6 x8 x9 g hk
    rw [l_waves_216] at hk
    refine mj_iload d_Mo_waves_216 rfl ?_
    refine mj_iload d_Mo_waves_218 rfl ?_
    refine mj_icmp_ge (tgt := 247) d_Mo_waves_220 (by decide) (fun c_220 => ?_) (fun c_220 => ?_)
    · replace hk := og_pos c_220 hk
      refine mj_fg 9 (L' := [some (.ref 27), some (.int x1), some (.int x2), some (.int x3), some (.int x4), some (.int x5), some (.int x6), none, some (.int x8), none]) rfl ?_
      exact hK _ _ _ _ _ _ _ _ hk
    · replace hk := og_neg c_220 hk
      refine mj_aload_n d_Mo_waves_223 rfl ?_
      refine mj_aload_n d_Mo_waves_224 rfl ?_
      refine mj_get ok_Mo (k := 17) (v := .ref 39) (by decide) fl_Mo_56 d_Mo_waves_225 (mo_h hl) rfl ?_
      refine mj_bipush (v := 8) d_Mo_waves_228 (by decide) ?_
      refine mj_iload d_Mo_waves_230 rfl ?_
      refine mj_imul d_Mo_waves_232 ?_
      refine mj_iload d_Mo_waves_233 rfl ?_
      refine mj_iadd d_Mo_waves_235 ?_
      have q36 := og_1 hk
      replace hk := og_2 hk
      refine mj_iald (f := (g.2 11)) d_Mo_waves_236 (mo_a11 hl) q36 ?_
      refine mj_iconst (v := 2) d_Mo_waves_237 (by decide) ?_
      obtain ⟨z37, hz37, hk⟩ := og_b hk
      refine mj_cV (S := []) (S1 := []) (tm_putMany hl hz37) d_Mo_waves_238 cw_Mo_putMany ml_Mo_120 im_Mo_putMany se_Mo_putMany rfl (mo_h hl) (by decide) rfl (Nat.le_of_ble_eq_true rfl) rfl rfl ?_
      refine mj_iinc (x := x9) (v := x9 + 1) (L' := [some (.ref 27), some (.int x1), some (.int x2), some (.int x3), some (.int x4), some (.int x5), some (.int x6), none, some (.int x8), some (.int (x9 + 1))]) d_Mo_waves_241 rfl rfl (by decide) rfl rfl ?_
      refine mj_goto (tgt := 216) d_Mo_waves_244 (by decide) ?_
      exact hbk _ _ _ _ _ _ _ _ _ hk
noncomputable def l_waves_206 (K : Int32 → Int32 → Int32 → Int32 → Int32 → Int32 → mo_G → Option mo_G) : Nat → Int32 → Int32 → Int32 → Int32 → Int32 → Int32 → Int32 → mo_G → Option mo_G
  | 0, _, _, _, _, _, _, _, _ => none
  | n + 1, x1, x2, x3, x4, x5, x6, x8, g => if x5 ≤ x8 then (K x1 x2 x3 x4 x5 x6 g) else (l_waves_216 (fun y39 y40 y41 y42 y43 y44 y45 g38 => (fun x1 x2 x3 x4 x5 x6 x8 g => l_waves_206 K n x1 x2 x3 x4 x5 x6 x8 g) y39 y40 y41 y42 y43 y44 (y45 + 1) g38) 2000 x1 x2 x3 x4 x5 x6 x8 0 g)
set_option maxRecDepth 100000 in
set_option maxHeartbeats 4000000 in
theorem tl_waves_206 {h : mj_H} {r : mo_G} (hl : 39 < h.length) {K : Int32 → Int32 → Int32 → Int32 → Int32 → Int32 → mo_G → Option mo_G} (hK : (∀ (x1 : Int32) (x2 : Int32) (x3 : Int32) (x4 : Int32) (x5 : Int32) (x6 : Int32) (g : mo_G), K x1 x2 x3 x4 x5 x6 g = some r → mj_W M_Mo_waves (mj_q none (mo_up h r)) (2, 57, none) 0 0 253 [some (.ref 27), some (.int x1), some (.int x2), some (.int x3), some (.int x4), some (.int x5), some (.int x6), none, none, none] [] (mo_up h g))) : ∀ (n : Nat) (x1 : Int32) (x2 : Int32) (x3 : Int32) (x4 : Int32) (x5 : Int32) (x6 : Int32) (x8 : Int32) (g : mo_G), l_waves_206 K n x1 x2 x3 x4 x5 x6 x8 g = some r → mj_W M_Mo_waves (mj_q none (mo_up h r)) (2, 57, none) 0 0 206 [some (.ref 27), some (.int x1), some (.int x2), some (.int x3), some (.int x4), some (.int x5), some (.int x6), none, some (.int x8), none] [] (mo_up h g) := by
  intro n
  induction n with
  | zero =>
    intro x1 x2 x3 x4 x5 x6 x8 g hk
    cases hk
  | succ n hbk =>
    intro x1 x2 x3 x4 x5 x6 x8 g hk
    rw [l_waves_206] at hk
    refine mj_iload d_Mo_waves_206 rfl ?_
    refine mj_iload d_Mo_waves_208 rfl ?_
    refine mj_icmp_ge (tgt := 253) d_Mo_waves_210 (by decide) (fun c_210 => ?_) (fun c_210 => ?_)
    · replace hk := og_pos c_210 hk
      refine mj_fg 8 (L' := [some (.ref 27), some (.int x1), some (.int x2), some (.int x3), some (.int x4), some (.int x5), some (.int x6), none, none, none]) rfl ?_
      exact hK _ _ _ _ _ _ _ hk
    · replace hk := og_neg c_210 hk
      refine mj_iconst (v := 0) d_Mo_waves_213 (by decide) ?_
      refine mj_istore (L' := [some (.ref 27), some (.int x1), some (.int x2), some (.int x3), some (.int x4), some (.int x5), some (.int x6), none, some (.int x8), some (.int 0)]) d_Mo_waves_214 (by decide) rfl rfl ?_
      refine tl_waves_216 hl ?_ 2000 _ _ _ _ _ _ _ _ _ hk
      intro y39 y40 y41 y42 y43 y44 y45 g38 hk
      refine mj_iinc (x := y45) (v := y45 + 1) (L' := [some (.ref 27), some (.int y39), some (.int y40), some (.int y41), some (.int y42), some (.int y43), some (.int y44), none, some (.int (y45 + 1)), none]) d_Mo_waves_247 rfl rfl (by decide) rfl rfl ?_
      refine mj_goto (tgt := 206) d_Mo_waves_250 (by decide) ?_
      exact hbk _ _ _ _ _ _ _ _ hk
noncomputable def j_waves_63 (K : Int32 → Int32 → Int32 → mo_G → Option mo_G) (bk : Int32 → Int32 → Int32 → Int32 → Int32 → Int32 → mo_G → Option mo_G) (x1 : Int32) (x2 : Int32) (x3 : Int32) (x4 : Int32) (x5 : Int32) (x6 : Int32) (s0 : Int32) (s1 : Int32) (g : mo_G) : Option mo_G := if s0 ≤ s1 then (K x1 x2 x3 g) else (l_waves_72 (fun y21 y22 y23 y24 y25 y26 g20 => l_waves_170 (fun y30 y31 y32 y33 y34 y35 g29 => l_waves_206 (fun y47 y48 y49 y50 y51 y52 g46 => bk y47 y48 y49 y50 y51 (y52 + 1) g46) 2000 y30 y31 y32 y33 y34 y35 0 g29) 2000 y21 y22 y23 y24 y25 y26 1 g20) 2000 x1 x2 x3 x4 x5 x6 0 x1 g)
set_option maxRecDepth 100000 in
set_option maxHeartbeats 4000000 in
theorem tj_waves_63 {h : mj_H} {r : mo_G} (hl : 39 < h.length) {K : Int32 → Int32 → Int32 → mo_G → Option mo_G} {bk : Int32 → Int32 → Int32 → Int32 → Int32 → Int32 → mo_G → Option mo_G} (hK : (∀ (x1 : Int32) (x2 : Int32) (x3 : Int32) (g : mo_G), K x1 x2 x3 g = some r → mj_W M_Mo_waves (mj_q none (mo_up h r)) (2, 57, none) 0 0 259 [some (.ref 27), some (.int x1), some (.int x2), some (.int x3), none, none, none, none, none, none] [] (mo_up h g))) (hbk : (∀ (x1 : Int32) (x2 : Int32) (x3 : Int32) (x4 : Int32) (x5 : Int32) (x6 : Int32) (g : mo_G), bk x1 x2 x3 x4 x5 x6 g = some r → mj_W M_Mo_waves (mj_q none (mo_up h r)) (2, 57, none) 0 0 46 [some (.ref 27), some (.int x1), some (.int x2), some (.int x3), some (.int x4), some (.int x5), some (.int x6), none, none, none] [] (mo_up h g))) {x1 : Int32} {x2 : Int32} {x3 : Int32} {x4 : Int32} {x5 : Int32} {x6 : Int32} {s0 : Int32} {s1 : Int32} {g : mo_G} (hk : j_waves_63 K bk x1 x2 x3 x4 x5 x6 s0 s1 g = some r) : mj_W M_Mo_waves (mj_q none (mo_up h r)) (2, 57, none) 0 0 63 [some (.ref 27), some (.int x1), some (.int x2), some (.int x3), some (.int x4), some (.int x5), some (.int x6), none, none, none] [.int s0, .int s1] (mo_up h g) := by
  unfold j_waves_63 at hk
  refine mj_icmp_ge (tgt := 259) d_Mo_waves_63 (by decide) (fun c_63 => ?_) (fun c_63 => ?_)
  · replace hk := og_pos c_63 hk
    refine mj_fg 4 (L' := [some (.ref 27), some (.int x1), some (.int x2), some (.int x3), none, some (.int x5), some (.int x6), none, none, none]) rfl ?_
    refine mj_fg 5 (L' := [some (.ref 27), some (.int x1), some (.int x2), some (.int x3), none, none, some (.int x6), none, none, none]) rfl ?_
    refine mj_fg 6 (L' := [some (.ref 27), some (.int x1), some (.int x2), some (.int x3), none, none, none, none, none, none]) rfl ?_
    exact hK _ _ _ _ hk
  · replace hk := og_neg c_63 hk
    refine mj_iconst (v := 0) d_Mo_waves_66 (by decide) ?_
    refine mj_istore (L' := [some (.ref 27), some (.int x1), some (.int x2), some (.int x3), some (.int x4), some (.int x5), some (.int x6), some (.int 0), none, none]) d_Mo_waves_67 (by decide) rfl rfl ?_
    refine mj_iload_n d_Mo_waves_69 rfl ?_
    refine mj_istore (L' := [some (.ref 27), some (.int x1), some (.int x2), some (.int x3), some (.int x4), some (.int x5), some (.int x6), some (.int 0), some (.int x1), none]) d_Mo_waves_70 (by decide) rfl rfl ?_
    refine tl_waves_72 hl ?_ 2000 _ _ _ _ _ _ _ _ _ hk
    intro y21 y22 y23 y24 y25 y26 g20 hk
    refine mj_iconst (v := 1) d_Mo_waves_167 (by decide) ?_
    refine mj_istore (L' := [some (.ref 27), some (.int y21), some (.int y22), some (.int y23), some (.int y24), some (.int y25), some (.int y26), none, some (.int 1), none]) d_Mo_waves_168 (by decide) rfl rfl ?_
    refine tl_waves_170 hl ?_ 2000 _ _ _ _ _ _ _ _ hk
    intro y30 y31 y32 y33 y34 y35 g29 hk
    refine mj_iconst (v := 0) d_Mo_waves_203 (by decide) ?_
    refine mj_istore (L' := [some (.ref 27), some (.int y30), some (.int y31), some (.int y32), some (.int y33), some (.int y34), some (.int y35), none, some (.int 0), none]) d_Mo_waves_204 (by decide) rfl rfl ?_
    refine tl_waves_206 hl ?_ 2000 _ _ _ _ _ _ _ _ hk
    intro y47 y48 y49 y50 y51 y52 g46 hk
    refine mj_iinc (x := y52) (v := y52 + 1) (L' := [some (.ref 27), some (.int y47), some (.int y48), some (.int y49), some (.int y50), some (.int y51), some (.int (y52 + 1)), none, none, none]) d_Mo_waves_253 rfl rfl (by decide) rfl rfl ?_
    refine mj_goto (tgt := 46) d_Mo_waves_256 (by decide) ?_
    exact hbk _ _ _ _ _ _ _ hk
noncomputable def l_waves_46 (K : Int32 → Int32 → Int32 → mo_G → Option mo_G) : Nat → Int32 → Int32 → Int32 → Int32 → Int32 → Int32 → mo_G → Option mo_G
  | 0, _, _, _, _, _, _, _ => none
  | n + 1, x1, x2, x3, x4, x5, x6, g => og (vp_in (x3 : Int32) 3) (if (((g.2 1) (x3 : Int32).toNatClampNeg)) = 1 then (j_waves_63 K (fun x1 x2 x3 x4 x5 x6 g => l_waves_46 K n x1 x2 x3 x4 x5 x6 g) x1 x2 x3 x4 x5 x6 2 x6 g) else (j_waves_63 K (fun x1 x2 x3 x4 x5 x6 g => l_waves_46 K n x1 x2 x3 x4 x5 x6 g) x1 x2 x3 x4 x5 x6 1 x6 g))
set_option maxRecDepth 100000 in
set_option maxHeartbeats 4000000 in
theorem tl_waves_46 {h : mj_H} {r : mo_G} (hl : 39 < h.length) {K : Int32 → Int32 → Int32 → mo_G → Option mo_G} (hK : (∀ (x1 : Int32) (x2 : Int32) (x3 : Int32) (g : mo_G), K x1 x2 x3 g = some r → mj_W M_Mo_waves (mj_q none (mo_up h r)) (2, 57, none) 0 0 259 [some (.ref 27), some (.int x1), some (.int x2), some (.int x3), none, none, none, none, none, none] [] (mo_up h g))) : ∀ (n : Nat) (x1 : Int32) (x2 : Int32) (x3 : Int32) (x4 : Int32) (x5 : Int32) (x6 : Int32) (g : mo_G), l_waves_46 K n x1 x2 x3 x4 x5 x6 g = some r → mj_W M_Mo_waves (mj_q none (mo_up h r)) (2, 57, none) 0 0 46 [some (.ref 27), some (.int x1), some (.int x2), some (.int x3), some (.int x4), some (.int x5), some (.int x6), none, none, none] [] (mo_up h g) := by
  intro n
  induction n with
  | zero =>
    intro x1 x2 x3 x4 x5 x6 g hk
    cases hk
  | succ n hbk =>
    intro x1 x2 x3 x4 x5 x6 g hk
    rw [l_waves_46] at hk
    refine mj_iload d_Mo_waves_46 rfl ?_
    refine mj_aload_n d_Mo_waves_48 rfl ?_
    refine mj_get ok_Mo (k := 7) (v := .ref 29) (by decide) fl_Mo_26 d_Mo_waves_49 (mo_h hl) rfl ?_
    refine mj_iload_n d_Mo_waves_52 rfl ?_
    have q5 := og_1 hk
    replace hk := og_2 hk
    refine mj_iald (f := (g.2 1)) d_Mo_waves_53 (mo_a1 hl) q5 ?_
    refine mj_iconst (v := 1) d_Mo_waves_54 (by decide) ?_
    refine mj_icmp_ne (tgt := 62) d_Mo_waves_55 (by decide) (fun c_55 => ?_) (fun c_55 => ?_)
    · replace hk := og_neg c_55 hk
      refine mj_iconst (v := 1) d_Mo_waves_62 (by decide) ?_
      exact tj_waves_63 hl hK hbk hk
    · replace hk := og_pos c_55 hk
      refine mj_iconst (v := 2) d_Mo_waves_58 (by decide) ?_
      refine mj_goto (tgt := 63) d_Mo_waves_59 (by decide) ?_
      exact tj_waves_63 hl hK hbk hk
noncomputable def l_waves_7 (K : mo_G → Option mo_G) : Nat → Int32 → Int32 → Int32 → mo_G → Option mo_G
  | 0, _, _, _, _ => none
  | n + 1, x1, x2, x3, g => if (g.1 2) ≤ x3 then (K g) else (og (vp_in (x3 : Int32) 3) ((r_across (g.1 0) (((g.2 2) (x3 : Int32).toNatClampNeg))).bind (fun z2 => og (vp_in (x3 : Int32) 3) ((r_down x1 x2 (((g.2 2) (x3 : Int32).toNatClampNeg))).bind (fun z4 => l_waves_46 (fun y54 y55 y56 g53 => (fun x1 x2 x3 g => l_waves_7 K n x1 x2 x3 g) y54 y55 (y56 + 1) g53) 2000 x1 x2 x3 z2 z4 0 g)))))
set_option maxRecDepth 100000 in
set_option maxHeartbeats 4000000 in
theorem tl_waves_7 {h : mj_H} {r : mo_G} (hl : 39 < h.length) {K : mo_G → Option mo_G} (hK : (∀ (g : mo_G), K g = some r → mj_W M_Mo_waves (mj_q none (mo_up h r)) (2, 57, none) 0 0 265 [some (.ref 27), none, none, none, none, none, none, none, none, none] [] (mo_up h g))) : ∀ (n : Nat) (x1 : Int32) (x2 : Int32) (x3 : Int32) (g : mo_G), l_waves_7 K n x1 x2 x3 g = some r → mj_W M_Mo_waves (mj_q none (mo_up h r)) (2, 57, none) 0 0 7 [some (.ref 27), some (.int x1), some (.int x2), some (.int x3), none, none, none, none, none, none] [] (mo_up h g) := by
  intro n
  induction n with
  | zero =>
    intro x1 x2 x3 g hk
    cases hk
  | succ n hbk =>
    intro x1 x2 x3 g hk
    rw [l_waves_7] at hk
    refine mj_iload_n d_Mo_waves_7 rfl ?_
    refine mj_aload_n d_Mo_waves_8 rfl ?_
    refine mj_get ok_Mo (k := 2) (v := .int (g.1 2)) (by decide) fl_Mo_16 d_Mo_waves_9 (mo_h hl) rfl ?_
    refine mj_icmp_ge (tgt := 265) d_Mo_waves_12 (by decide) (fun c_12 => ?_) (fun c_12 => ?_)
    · replace hk := og_pos c_12 hk
      refine mj_fg 1 (L' := [some (.ref 27), none, some (.int x2), some (.int x3), none, none, none, none, none, none]) rfl ?_
      refine mj_fg 2 (L' := [some (.ref 27), none, none, some (.int x3), none, none, none, none, none, none]) rfl ?_
      refine mj_fg 3 (L' := [some (.ref 27), none, none, none, none, none, none, none, none, none]) rfl ?_
      exact hK _ hk
    · replace hk := og_neg c_12 hk
      refine mj_aload_n d_Mo_waves_15 rfl ?_
      refine mj_get ok_Mo (k := 0) (v := .int (g.1 0)) (by decide) fl_Mo_7 d_Mo_waves_16 (mo_h hl) rfl ?_
      refine mj_aload_n d_Mo_waves_19 rfl ?_
      refine mj_get ok_Mo (k := 8) (v := .ref 30) (by decide) fl_Mo_29 d_Mo_waves_20 (mo_h hl) rfl ?_
      refine mj_iload_n d_Mo_waves_23 rfl ?_
      have q1 := og_1 hk
      replace hk := og_2 hk
      refine mj_iald (f := (g.2 2)) d_Mo_waves_24 (mo_a2 hl) q1 ?_
      obtain ⟨z2, hz2, hk⟩ := og_b hk
      refine mj_cS (S := []) (S1 := [.int z2]) (tm_across hz2) d_Mo_waves_25 cw_Mo_across ml_Mo_131 st_Mo_across (by decide) rfl (Nat.le_of_ble_eq_true rfl) rfl rfl ?_
      refine mj_istore (L' := [some (.ref 27), some (.int x1), some (.int x2), some (.int x3), some (.int z2), none, none, none, none, none]) d_Mo_waves_28 (by decide) rfl rfl ?_
      refine mj_iload_n d_Mo_waves_30 rfl ?_
      refine mj_iload_n d_Mo_waves_31 rfl ?_
      refine mj_aload_n d_Mo_waves_32 rfl ?_
      refine mj_get ok_Mo (k := 8) (v := .ref 30) (by decide) fl_Mo_29 d_Mo_waves_33 (mo_h hl) rfl ?_
      refine mj_iload_n d_Mo_waves_36 rfl ?_
      have q3 := og_1 hk
      replace hk := og_2 hk
      refine mj_iald (f := (g.2 2)) d_Mo_waves_37 (mo_a2 hl) q3 ?_
      obtain ⟨z4, hz4, hk⟩ := og_b hk
      refine mj_cS (S := []) (S1 := [.int z4]) (tm_down hz4) d_Mo_waves_38 cw_Mo_down ml_Mo_135 st_Mo_down (by decide) rfl (Nat.le_of_ble_eq_true rfl) rfl rfl ?_
      refine mj_istore (L' := [some (.ref 27), some (.int x1), some (.int x2), some (.int x3), some (.int z2), some (.int z4), none, none, none, none]) d_Mo_waves_41 (by decide) rfl rfl ?_
      refine mj_iconst (v := 0) d_Mo_waves_43 (by decide) ?_
      refine mj_istore (L' := [some (.ref 27), some (.int x1), some (.int x2), some (.int x3), some (.int z2), some (.int z4), some (.int 0), none, none, none]) d_Mo_waves_44 (by decide) rfl rfl ?_
      refine tl_waves_46 hl ?_ 2000 _ _ _ _ _ _ _ hk
      intro y54 y55 y56 g53 hk
      refine mj_iinc (x := y56) (v := y56 + 1) (L' := [some (.ref 27), some (.int y54), some (.int y55), some (.int (y56 + 1)), none, none, none, none, none, none]) d_Mo_waves_259 rfl rfl (by decide) rfl rfl ?_
      refine mj_goto (tgt := 7) d_Mo_waves_262 (by decide) ?_
      exact hbk _ _ _ _ hk
noncomputable def r_waves (x1 : Int32) (x2 : Int32) (g : mo_G) : Option mo_G := l_waves_7 (fun  g57 => some g57) 2000 x1 x2 0 (upd g.1 6 0, g.2)
set_option maxRecDepth 100000 in
set_option maxHeartbeats 4000000 in
theorem tm_waves {h : mj_H} {r : mo_G} (hl : 39 < h.length) {x1 : Int32} {x2 : Int32} {g : mo_G} (hk : r_waves x1 x2 g = some r) : mj_Met M_Mo_waves (2, 57, none) 0 0 [.ref 27, .int x1, .int x2] (mo_up h g) (mj_q none (mo_up h r)) := by
  unfold r_waves at hk
  refine mj_enter (r := 7) rfl rfl (by decide) rfl ?_
  show mj_W M_Mo_waves _ _ _ _ 0 [some (.ref 27), some (.int x1), some (.int x2), none, none, none, none, none, none, none] [] (mo_up h g)
  refine mj_aload_n d_Mo_waves_0 rfl ?_
  refine mj_iconst (v := 0) d_Mo_waves_1 (by decide) ?_
  refine mj_put ok_Mo (k := 18) (by decide) fl_Mo_110 rfl (fun _ => rfl) (fun _ => rfl) (Nat.le_of_ble_eq_true rfl) d_Mo_waves_2 (mo_h hl) ?_
  refine mj_hp (h1 := mo_up h (upd g.1 6 0, g.2)) (mo_p6 (g := g) hl 0) ?_
  refine mj_iconst (v := 0) d_Mo_waves_5 (by decide) ?_
  refine mj_istore_n (L' := [some (.ref 27), some (.int x1), some (.int x2), some (.int 0), none, none, none, none, none, none]) d_Mo_waves_6 (by decide) rfl rfl ?_
  refine tl_waves_7 hl ?_ 2000 _ _ _ _ hk
  intro  g57 hk
  cases hk
  exact mj_vret rfl d_Mo_waves_265 ⟨rfl, rfl⟩
