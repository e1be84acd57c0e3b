theorem at_IA : ∀ w ∈ vx_at0 "RasterForge" 63 "java/lang/IllegalArgumentException" ["java/lang/RuntimeException", "java/lang/Exception"], mj_in w := fun w hw => mj_t1 ((by decide +kernel : ∀ w ∈ vx_at0 "RasterForge" 63 "java/lang/IllegalArgumentException" ["java/lang/RuntimeException", "java/lang/Exception"], w ∈ tables_1) w hw) ((by decide +kernel : ∀ w ∈ vx_at0 "RasterForge" 63 "java/lang/IllegalArgumentException" ["java/lang/RuntimeException", "java/lang/Exception"], mj_gd w = true) w hw)
theorem gw_IA : ∀ w ∈ Cond.classLink "RasterForge" 61 "java/lang/IllegalArgumentException" :: Cond.initialized "java/lang/IllegalArgumentException" :: vx_at0 "RasterForge" 63 "java/lang/IllegalArgumentException" ["java/lang/RuntimeException", "java/lang/Exception"], vx_ot w = true := by decide +kernel
theorem at_IS : ∀ w ∈ vx_at0 "RasterForge" 73 "java/lang/IllegalStateException" ["java/lang/RuntimeException", "java/lang/Exception"], mj_in w := fun w hw => mj_t1 ((by decide +kernel : ∀ w ∈ vx_at0 "RasterForge" 73 "java/lang/IllegalStateException" ["java/lang/RuntimeException", "java/lang/Exception"], w ∈ tables_1) w hw) ((by decide +kernel : ∀ w ∈ vx_at0 "RasterForge" 73 "java/lang/IllegalStateException" ["java/lang/RuntimeException", "java/lang/Exception"], mj_gd w = true) w hw)
theorem gw_IS : ∀ w ∈ Cond.classLink "RasterForge" 71 "java/lang/IllegalStateException" :: Cond.initialized "java/lang/IllegalStateException" :: vx_at0 "RasterForge" 73 "java/lang/IllegalStateException" ["java/lang/RuntimeException", "java/lang/Exception"], vx_ot w = true := by decide +kernel
theorem at_IO : ∀ w ∈ vx_at0 "RasterForge" 84 "java/lang/IndexOutOfBoundsException" ["java/lang/RuntimeException", "java/lang/Exception"], mj_in w := fun w hw => mj_t1 ((by decide +kernel : ∀ w ∈ vx_at0 "RasterForge" 84 "java/lang/IndexOutOfBoundsException" ["java/lang/RuntimeException", "java/lang/Exception"], w ∈ tables_1) w hw) ((by decide +kernel : ∀ w ∈ vx_at0 "RasterForge" 84 "java/lang/IndexOutOfBoundsException" ["java/lang/RuntimeException", "java/lang/Exception"], mj_gd w = true) w hw)
theorem gw_IO : ∀ w ∈ Cond.classLink "RasterForge" 82 "java/lang/IndexOutOfBoundsException" :: Cond.initialized "java/lang/IndexOutOfBoundsException" :: vx_at0 "RasterForge" 84 "java/lang/IndexOutOfBoundsException" ["java/lang/RuntimeException", "java/lang/Exception"], vx_ot w = true := by decide +kernel
theorem at_UO : ∀ w ∈ vx_at0 "RasterForge" 127 "java/lang/UnsupportedOperationException" ["java/lang/RuntimeException", "java/lang/Exception"], mj_in w := fun w hw => mj_t1 ((by decide +kernel : ∀ w ∈ vx_at0 "RasterForge" 127 "java/lang/UnsupportedOperationException" ["java/lang/RuntimeException", "java/lang/Exception"], w ∈ tables_1) w hw) ((by decide +kernel : ∀ w ∈ vx_at0 "RasterForge" 127 "java/lang/UnsupportedOperationException" ["java/lang/RuntimeException", "java/lang/Exception"], mj_gd w = true) w hw)
theorem gw_UO : ∀ w ∈ Cond.classLink "RasterForge" 125 "java/lang/UnsupportedOperationException" :: Cond.initialized "java/lang/UnsupportedOperationException" :: vx_at0 "RasterForge" 127 "java/lang/UnsupportedOperationException" ["java/lang/RuntimeException", "java/lang/Exception"], vx_ot w = true := by decide +kernel
/-- ends with a new exception -/
def mj_t (ci : Nat) (h : mj_H) : mj_E → mj_H → Prop := fun r h' => r = .inr h.length ∧ h' = h ++ ([.inr (ci, [])] : mj_H)
theorem en_fit : ∀ n ∈ ["java/lang/RuntimeException", "java/lang/Exception"], Bundle.fit n = true := by decide +kernel
def Ob (h : mj_H) (b : by_B) (f : Nat → Int32) (r s q : by_B) (pa pb : Nat) (p p2 : pi_P) (v : Int32) : Prop :=
  h[0]? = some (.inr (0, [.ref 1, .ref 3, .ref 13, .ref 14, .ref pa, .ref pb, .int v])) ∧ By h 1 2 1500 b ∧ Cf h f r s q pa (pa + 1) (pa + 2) (pa + 3) (pa + 4) p ∧ Pi h pb (pb + 1) (pb + 2) (pb + 3) (pb + 4) p2 ∧ h[13]? = some (.inr (7, [])) ∧ (∃ (v0 v1 : Int32) (k0 u : Nat) (v4 : Int32), h[14]? = some (.inr (5, [.int v0, .int v1, .int (nI k0), .ref u, .int v4]))) ∧ pi_ok p2 ∧ by_ok b ∧ (pa = 17 ∧ pb = 22 ∨ pa = 22 ∧ pb = 17)
abbrev ob_up (h : mj_H) (pa : Nat) (p : pi_P) : mj_H := pi_up h pa (pa + 1) (pa + 2) (pa + 3) (pa + 4) p
theorem i_lt0 {x : Int32} (h : 1 ≤ x) : ¬ x < 0 := fun q => by
  have h1 := Int32.lt_iff_toInt_lt.mp q
  have h2 := Int32.le_iff_toInt_le.mp h
  have e1 : (1 : Int32).toInt = 1 := by decide
  have e0 : (0 : Int32).toInt = 0 := by decide
  omega
theorem i_side {x : Int32} (h : 1 ≤ x) (g : x ≤ 8) : ∃ j : Nat, j ≤ 8 ∧ x = nI j := nI_of2 (by decide) (i_lt0 h) g
set_option maxRecDepth 100000 in
set_option maxHeartbeats 4000000 in
theorem c_RF_where {h : mj_H} {b : by_B} {f : Nat → Int32} {r s q : by_B} {pa pb : Nat} {p p2 : pi_P} {v : Int32} (O : Ob h b f r s q pa pb p p2 v) : mj_Met M_RF_where (0, 0, none) 0 0 [.ref 0] h (mj_q (some (.int v)) h) := by
  obtain ⟨o0, B, C, P2, ow, -, ok2, okb, opq⟩ := id O
  obtain ⟨b1, b2, b3, b4⟩ := id B
  obtain ⟨h1, h2, h3, h4, h5, -, w1, w2, w3⟩ := id C.1.1.2.2.1
  refine mj_enter (r := 0) rfl rfl (by decide) rfl ?_
  show mj_W M_RF_where _ _ _ _ 0 [some (.ref 0)] [] h
  refine mj_aload_n d_RF_where_0 rfl ?_
  refine mj_get ok_RF (k := 6) (by decide) fl_RF_49 d_RF_where_1 o0 rfl ?_
  exact mj_iret rfl d_RF_where_4 ⟨rfl, rfl⟩
set_option maxRecDepth 100000 in
set_option maxHeartbeats 4000000 in
theorem c_RF_begin {h : mj_H} {b : by_B} {f : Nat → Int32} {r s q : by_B} {pa pb : Nat} {p p2 : pi_P} {v : Int32} (O : Ob h b f r s q pa pb p p2 v) (x y : Int32) : mj_Met M_RF_begin (6, 100, none) 1 6 [.ref 0, .int x, .int y] h (if 1 ≤ x ∧ x ≤ 8 ∧ 1 ≤ y ∧ y ≤ 8 then mj_q (some (.int (x * y))) (ob_up h pa (pi_new p x.toNatClampNeg y.toNatClampNeg)) else mj_t 9 h) := by
  obtain ⟨o0, B, C, P2, ow, -, ok2, okb, opq⟩ := id O
  obtain ⟨b1, b2, b3, b4⟩ := id B
  obtain ⟨h1, h2, h3, h4, h5, -, w1, w2, w3⟩ := id C.1.1.2.2.1
  refine mj_enter (r := 0) rfl rfl (by decide) rfl ?_
  show mj_W M_RF_begin _ _ _ _ 0 [some (.ref 0), some (.int x), some (.int y)] [] h
  refine mj_iload_n d_RF_begin_0 rfl ?_
  refine mj_iconst (v := 1) d_RF_begin_1 (by decide) ?_
  refine mj_icmp_lt (tgt := 22) d_RF_begin_2 (by decide) (fun c_2 => ?_) (fun c_2 => ?_)
  · refine mj_throw0 (kc := 0) (ks := 0) (names := ["java/lang/RuntimeException", "java/lang/Exception"]) (ci := 9) rfl rfl (by decide +kernel) en_fit cl_RF_61 in_IA at_IA gw_IA d_RF_begin_22 d_RF_begin_25 d_RF_begin_26 d_RF_begin_29 (by decide) ?_
    rw [if_neg (fun g => absurd c_2 (mj_nl g.1))]
    exact ⟨rfl, rfl⟩
  · refine mj_iload_n d_RF_begin_5 rfl ?_
    refine mj_bipush (v := 8) d_RF_begin_6 (by decide) ?_
    refine mj_icmp_gt (tgt := 22) d_RF_begin_8 (by decide) (fun c_8 => ?_) (fun c_8 => ?_)
    · refine mj_throw0 (kc := 0) (ks := 0) (names := ["java/lang/RuntimeException", "java/lang/Exception"]) (ci := 9) rfl rfl (by decide +kernel) en_fit cl_RF_61 in_IA at_IA gw_IA d_RF_begin_22 d_RF_begin_25 d_RF_begin_26 d_RF_begin_29 (by decide) ?_
      rw [if_neg (fun g => absurd c_8 (mj_nl g.2.1))]
      exact ⟨rfl, rfl⟩
    · refine mj_iload_n d_RF_begin_11 rfl ?_
      refine mj_iconst (v := 1) d_RF_begin_12 (by decide) ?_
      refine mj_icmp_lt (tgt := 22) d_RF_begin_13 (by decide) (fun c_13 => ?_) (fun c_13 => ?_)
      · refine mj_throw0 (kc := 0) (ks := 0) (names := ["java/lang/RuntimeException", "java/lang/Exception"]) (ci := 9) rfl rfl (by decide +kernel) en_fit cl_RF_61 in_IA at_IA gw_IA d_RF_begin_22 d_RF_begin_25 d_RF_begin_26 d_RF_begin_29 (by decide) ?_
        rw [if_neg (fun g => absurd c_13 (mj_nl g.2.2.1))]
        exact ⟨rfl, rfl⟩
      · refine mj_iload_n d_RF_begin_16 rfl ?_
        refine mj_bipush (v := 8) d_RF_begin_17 (by decide) ?_
        refine mj_icmp_le (tgt := 30) d_RF_begin_19 (by decide) (fun c_19 => ?_) (fun c_19 => ?_)
        · have g : 1 ≤ x ∧ x ≤ 8 ∧ 1 ≤ y ∧ y ≤ 8 := ⟨Int32.not_lt.mp c_2, Int32.not_lt.mp c_8, Int32.not_lt.mp c_13, c_19⟩
          obtain ⟨X, hX, eX⟩ := i_side g.1 g.2.1
          obtain ⟨Y, hY, eY⟩ := i_side g.2.2.1 g.2.2.2
          rw [if_pos g]
          subst eX eY
          rw [nI_clamp (by omega), nI_clamp (by omega)]
          refine mj_aload_n d_RF_begin_30 rfl ?_
          refine mj_get ok_RF (k := 4) (by decide) fl_RF_42 d_RF_begin_31 o0 rfl ?_
          refine mj_iload_n d_RF_begin_34 rfl ?_
          refine mj_iload_n d_RF_begin_35 rfl ?_
          refine mj_cV (S := []) (S1 := []) (c_Pi_startAnew C.1.1.2.2.1 (w := X) (v := Y) hX hY) d_RF_begin_36 cw_Pi_startAnew ml_RF_53 im_Pi_startAnew se_Pi_startAnew rfl h1 (by decide) rfl (Nat.le_of_ble_eq_true rfl) rfl rfl ?_
          refine mj_iload_n d_RF_begin_39 rfl ?_
          refine mj_iload_n d_RF_begin_40 rfl ?_
          refine mj_imul d_RF_begin_41 ?_
          exact mj_iret rfl d_RF_begin_42 ⟨rfl, rfl⟩
        · refine mj_throw0 (kc := 0) (ks := 0) (names := ["java/lang/RuntimeException", "java/lang/Exception"]) (ci := 9) rfl rfl (by decide +kernel) en_fit cl_RF_61 in_IA at_IA gw_IA d_RF_begin_22 d_RF_begin_25 d_RF_begin_26 d_RF_begin_29 (by decide) ?_
          rw [if_neg (fun g => c_19 g.2.2.2)]
          exact ⟨rfl, rfl⟩
set_option maxRecDepth 100000 in
set_option maxHeartbeats 4000000 in
theorem c_RF_cut {h : mj_H} {b : by_B} {f : Nat → Int32} {r s q : by_B} {pa pb : Nat} {p p2 : pi_P} {v : Int32} (O : Ob h b f r s q pa pb p p2 v) (x : Int32) : mj_Met M_RF_cut (6, 100, none) 1 6 [.ref 0, .int x] h (if ¬ x < 0 ∧ x ≤ nI b.1 then mj_q (some (.int (nI b.1 - x))) (by_up h 1 2 1500 (x.toNatClampNeg, b.2.1, b.2.2)) else mj_t 9 h) := by
  obtain ⟨o0, B, C, P2, ow, -, ok2, okb, opq⟩ := id O
  obtain ⟨b1, b2, b3, b4⟩ := id B
  obtain ⟨h1, h2, h3, h4, h5, -, w1, w2, w3⟩ := id C.1.1.2.2.1
  refine mj_enter (r := 1) rfl rfl (by decide) rfl ?_
  show mj_W M_RF_cut _ _ _ _ 0 [some (.ref 0), some (.int x), none] [] h
  refine mj_iload_n d_RF_cut_0 rfl ?_
  refine mj_if_lt (tgt := 15) d_RF_cut_1 (by decide) (fun c_1 => ?_) (fun c_1 => ?_)
  · refine mj_throw0 (kc := 0) (ks := 0) (names := ["java/lang/RuntimeException", "java/lang/Exception"]) (ci := 9) rfl rfl (by decide +kernel) en_fit cl_RF_61 in_IA at_IA gw_IA d_RF_cut_15 d_RF_cut_18 d_RF_cut_19 d_RF_cut_22 (by decide) ?_
    rw [if_neg (fun g => g.1 c_1)]
    exact ⟨rfl, rfl⟩
  · refine mj_iload_n d_RF_cut_4 rfl ?_
    refine mj_aload_n d_RF_cut_5 rfl ?_
    refine mj_get ok_RF (k := 0) (by decide) fl_RF_14 d_RF_cut_6 o0 rfl ?_
    refine mj_get ok_By (k := 1) (by decide) fl_RF_111 d_RF_cut_9 b1 rfl ?_
    refine mj_icmp_le (tgt := 23) d_RF_cut_12 (by decide) (fun c_12 => ?_) (fun c_12 => ?_)
    · rw [if_pos ⟨c_1, c_12⟩]
      obtain ⟨X, hX, eX⟩ := nI_of c_1
      subst eX
      rw [nI_clamp hX]
      refine mj_aload_n d_RF_cut_23 rfl ?_
      refine mj_get ok_RF (k := 0) (by decide) fl_RF_14 d_RF_cut_24 o0 rfl ?_
      refine mj_get ok_By (k := 1) (by decide) fl_RF_111 d_RF_cut_27 b1 rfl ?_
      refine mj_iload_n d_RF_cut_30 rfl ?_
      refine mj_isub d_RF_cut_31 ?_
      refine mj_topi (fun v1 e_v1 => ?_)
      refine mj_istore_n (L' := [some (.ref 0), some (.int (nI X)), some (.int v1)]) d_RF_cut_32 (by decide) rfl rfl ?_
      refine mj_aload_n d_RF_cut_33 rfl ?_
      refine mj_get ok_RF (k := 0) (by decide) fl_RF_14 d_RF_cut_34 o0 rfl ?_
      refine mj_iload_n d_RF_cut_37 rfl ?_
      refine mj_put ok_By (k := 1) (by decide) fl_RF_111 rfl (fun _ => rfl) (fun _ => rfl) (Nat.le_of_ble_eq_true rfl) d_RF_cut_38 b1 ?_
      obtain ⟨hh2, e_hh2⟩ : ∃ q_ : mj_H, q_ = h.set 1 (.inr (1, [.ref 2, .int (nI X), .int (nI b.2.1)])) := ⟨_, rfl⟩
      refine mj_hp e_hh2 ?_
      have k3 := mj_sN (y := .inr (1, [.ref 2, .int (nI X), .int (nI b.2.1)])) (show (1 : Nat) ≠ 0 by decide) o0
      rw [← e_hh2] at k3
      have k4 : hh2[1]? = some (.inr (1, [.ref 2, .int (nI X), .int (nI b.2.1)])) := by rw [e_hh2]; exact mj_sS b1
      have k5 := mj_sN (y := .inr (1, [.ref 2, .int (nI X), .int (nI b.2.1)])) (show (1 : Nat) ≠ 2 by decide) b2
      rw [← e_hh2] at k5
      refine mj_iload_n d_RF_cut_41 rfl ?_
      exact mj_iret rfl d_RF_cut_42 ⟨by rw [e_v1], by rw [e_hh2]; exact (B.obj (b' := (X, b.2.1, b.2.2)) rfl).symm⟩
    · refine mj_throw0 (kc := 0) (ks := 0) (names := ["java/lang/RuntimeException", "java/lang/Exception"]) (ci := 9) rfl rfl (by decide +kernel) en_fit cl_RF_61 in_IA at_IA gw_IA d_RF_cut_15 d_RF_cut_18 d_RF_cut_19 d_RF_cut_22 (by decide) ?_
      rw [if_neg (fun g => c_12 g.2)]
      exact ⟨rfl, rfl⟩
set_option maxRecDepth 100000 in
set_option maxHeartbeats 4000000 in
theorem c_RF_file {h : mj_H} {b : by_B} {f : Nat → Int32} {r s q : by_B} {pa pb : Nat} {p p2 : pi_P} {v : Int32} (O : Ob h b f r s q pa pb p p2 v) (x : Int32) : mj_Met M_RF_file (6, 100, none) 1 6 [.ref 0, .int x] h (if ¬ x < -1 ∧ x < nI b.1 then mj_q (some (.int (if x = -1 then nI b.1 else by_get b x))) h else mj_t 11 h) := by
  obtain ⟨o0, B, C, P2, ow, -, ok2, okb, opq⟩ := id O
  obtain ⟨b1, b2, b3, b4⟩ := id B
  obtain ⟨h1, h2, h3, h4, h5, -, w1, w2, w3⟩ := id C.1.1.2.2.1
  refine mj_enter (r := 0) rfl rfl (by decide) rfl ?_
  show mj_W M_RF_file _ _ _ _ 0 [some (.ref 0), some (.int x)] [] h
  refine mj_iload_n d_RF_file_0 rfl ?_
  refine mj_iconst (v := (-1)) d_RF_file_1 (by decide) ?_
  refine mj_icmp_lt (tgt := 16) d_RF_file_2 (by decide) (fun c_2 => ?_) (fun c_2 => ?_)
  · refine mj_throw0 (kc := 0) (ks := 0) (names := ["java/lang/RuntimeException", "java/lang/Exception"]) (ci := 11) rfl rfl (by decide +kernel) en_fit cl_RF_82 in_IO at_IO gw_IO d_RF_file_16 d_RF_file_19 d_RF_file_20 d_RF_file_23 (by decide) ?_
    rw [if_neg (fun g => g.1 c_2)]
    exact ⟨rfl, rfl⟩
  · refine mj_iload_n d_RF_file_5 rfl ?_
    refine mj_aload_n d_RF_file_6 rfl ?_
    refine mj_get ok_RF (k := 0) (by decide) fl_RF_14 d_RF_file_7 o0 rfl ?_
    refine mj_get ok_By (k := 1) (by decide) fl_RF_111 d_RF_file_10 b1 rfl ?_
    refine mj_icmp_lt (tgt := 24) d_RF_file_13 (by decide) (fun c_13 => ?_) (fun c_13 => ?_)
    · rw [if_pos ⟨c_2, c_13⟩]
      refine mj_iload_n d_RF_file_24 rfl ?_
      refine mj_iconst (v := (-1)) d_RF_file_25 (by decide) ?_
      refine mj_icmp_ne (tgt := 39) d_RF_file_26 (by decide) (fun c_26 => ?_) (fun c_26 => ?_)
      · refine mj_aload_n d_RF_file_39 rfl ?_
        refine mj_get ok_RF (k := 0) (by decide) fl_RF_14 d_RF_file_40 o0 rfl ?_
        refine mj_iload_n d_RF_file_43 rfl ?_
        refine mj_cV (S := []) (S1 := [.int (by_get b x)]) (c_By_at B x) d_RF_file_44 cw_By_at ml_RF_131 im_By_at se_By_at rfl b1 (by decide) rfl (Nat.le_of_ble_eq_true rfl) rfl rfl ?_
        exact mj_iret rfl d_RF_file_47 ⟨by rw [if_neg c_26], rfl⟩
      · refine mj_aload_n d_RF_file_29 rfl ?_
        refine mj_get ok_RF (k := 0) (by decide) fl_RF_14 d_RF_file_30 o0 rfl ?_
        refine mj_get ok_By (k := 1) (by decide) fl_RF_111 d_RF_file_33 b1 rfl ?_
        refine mj_goto (tgt := 47) d_RF_file_36 (by decide) ?_
        exact mj_iret rfl d_RF_file_47 ⟨by rw [if_pos c_26], rfl⟩
    · refine mj_throw0 (kc := 0) (ks := 0) (names := ["java/lang/RuntimeException", "java/lang/Exception"]) (ci := 11) rfl rfl (by decide +kernel) en_fit cl_RF_82 in_IO at_IO gw_IO d_RF_file_16 d_RF_file_19 d_RF_file_20 d_RF_file_23 (by decide) ?_
      rw [if_neg (fun g => c_13 g.2)]
      exact ⟨rfl, rfl⟩
