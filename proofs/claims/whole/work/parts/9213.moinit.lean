def mo_f0 : List Value := [.int 0, .int 0, .int 0, .int 0, .int 0, .int 0, .null, .null, .null, .null, .null, .null, .null, .null, .null, .null, .null, .null, .int 0, .int 0, .int 0, .int 0, .int 0, .int 0, .int 0, .int 0, .int 0]
theorem nf_Mo : ∀ j, j < 27 → defaultValue (ty_Mo j) = vp_V mo_f0 j := by decide +kernel
theorem ax_g {X Y : mj_H} (hX : X.length = 27) (j : Nat) : (X ++ Y)[27 + j]? = Y[j]? := by rw [List.getElem?_append_right (by omega), hX, Nat.add_sub_cancel_left]
theorem ax_s {X Y Y1 : mj_H} (hX : X.length = 27) (j : Nat) (c : mj_C) (hY : Y.set j c = Y1) : X ++ Y1 = (X ++ Y).set (27 + j) c := by rw [← hY, List.set_append_right _ _ (by omega), hX, Nat.add_sub_cancel_left]
theorem ax_n {X Y Y1 : mj_H} (c : mj_C) (hY : Y ++ [c] = Y1) : X ++ Y1 = (X ++ Y) ++ [c] := by rw [← hY]; exact (List.append_assoc X Y [c]).symm
theorem ax_l {X Y : mj_H} (hX : X.length = 27) : (X ++ Y).length = 27 + Y.length := by rw [List.length_append, hX]
def mo_g0 : mo_G := (fun i => if i < 3 then 1 else if i = 4 then -2 else 0, fun i => if i = 0 then upd (fun _ => 0) 0 97 else if i = 2 then upd (fun _ => 0) 0 1 else fun _ => 0)
set_option maxRecDepth 100000 in
set_option maxHeartbeats 4000000 in
theorem c_Mo_init {X : mj_H} (hX : X.length = 27) : mj_Met M_Mo_init (1, 40, none) 12 4466 [.ref 27] (X ++ [.inr (8, [.int 0, .int 0, .int 0, .int 0, .int 0, .int 0, .null, .null, .null, .null, .null, .null, .null, .null, .null, .null, .null, .null, .int 0, .int 0, .int 0, .int 0, .int 0, .int 0, .int 0, .int 0, .int 0])]) (mj_q none (X ++ [.inr (8, [.int 1, .int 1, .int 1, .int 0, .int (-2), .int 0, .ref 28, .ref 29, .ref 30, .ref 31, .ref 32, .ref 33, .ref 34, .ref 35, .ref 36, .ref 37, .ref 38, .ref 39, .int 0, .int 0, .int 0, .int 0, .int 0, .int 0, .int 0, .int 0, .int 0]), .inl (3, .inl (upd (fun _ => 0) 0 97)), .inl (3, .inl (fun _ => 0)), .inl (3, .inl (upd (fun _ => 0) 0 1)), .inl (192, .inl (fun _ => 0)), .inl (1500, .inl (fun _ => 0)), .inl (3, .inl (fun _ => 0)), .inl (3, .inl (fun _ => 0)), .inl (3, .inl (fun _ => 0)), .inl (192, .inl (fun _ => 0)), .inl (800, .inl (fun _ => 0)), .inl (1700, .inl (fun _ => 0)), .inl (64, .inl (fun _ => 0))])) := by
  refine mj_enter (r := 0) rfl rfl (by decide) rfl ?_
  show mj_W M_Mo_init _ _ _ _ 0 [some (.ref 27)] [] (X ++ [.inr (8, [.int 0, .int 0, .int 0, .int 0, .int 0, .int 0, .null, .null, .null, .null, .null, .null, .null, .null, .null, .null, .null, .null, .int 0, .int 0, .int 0, .int 0, .int 0, .int 0, .int 0, .int 0, .int 0])])
  refine mj_aload_n d_Mo_init_0 rfl ?_
  refine mj_objInit d_Mo_init_1 ml_Mo_1 im_Ob_init cd_Ob_init (by decide) (Nat.le_of_ble_eq_true rfl) ?_
  refine mj_aload_n d_Mo_init_4 rfl ?_
  refine mj_iconst (v := 1) d_Mo_init_5 (by decide) ?_
  refine mj_put ok_Mo (k := 0) (by decide) fl_Mo_7 rfl (fun _ => rfl) (fun _ => rfl) (Nat.le_of_ble_eq_true rfl) d_Mo_init_6 (ax_g hX 0) ?_
  refine mj_hp (h1 := X ++ [.inr (8, [.int 1, .int 0, .int 0, .int 0, .int 0, .int 0, .null, .null, .null, .null, .null, .null, .null, .null, .null, .null, .null, .null, .int 0, .int 0, .int 0, .int 0, .int 0, .int 0, .int 0, .int 0, .int 0])]) (ax_s hX 0 _ rfl) ?_
  refine mj_aload_n d_Mo_init_9 rfl ?_
  refine mj_iconst (v := 1) d_Mo_init_10 (by decide) ?_
  refine mj_put ok_Mo (k := 1) (by decide) fl_Mo_13 rfl (fun _ => rfl) (fun _ => rfl) (Nat.le_of_ble_eq_true rfl) d_Mo_init_11 (ax_g hX 0) ?_
  refine mj_hp (h1 := X ++ [.inr (8, [.int 1, .int 1, .int 0, .int 0, .int 0, .int 0, .null, .null, .null, .null, .null, .null, .null, .null, .null, .null, .null, .null, .int 0, .int 0, .int 0, .int 0, .int 0, .int 0, .int 0, .int 0, .int 0])]) (ax_s hX 0 _ rfl) ?_
  refine mj_aload_n d_Mo_init_14 rfl ?_
  refine mj_iconst (v := 1) d_Mo_init_15 (by decide) ?_
  refine mj_put ok_Mo (k := 2) (by decide) fl_Mo_16 rfl (fun _ => rfl) (fun _ => rfl) (Nat.le_of_ble_eq_true rfl) d_Mo_init_16 (ax_g hX 0) ?_
  refine mj_hp (h1 := X ++ [.inr (8, [.int 1, .int 1, .int 1, .int 0, .int 0, .int 0, .null, .null, .null, .null, .null, .null, .null, .null, .null, .null, .null, .null, .int 0, .int 0, .int 0, .int 0, .int 0, .int 0, .int 0, .int 0, .int 0])]) (ax_s hX 0 _ rfl) ?_
  refine mj_aload_n d_Mo_init_19 rfl ?_
  refine mj_bipush (v := -2) d_Mo_init_20 (by decide) ?_
  refine mj_put ok_Mo (k := 4) (by decide) fl_Mo_19 rfl (fun _ => rfl) (fun _ => rfl) (Nat.le_of_ble_eq_true rfl) d_Mo_init_22 (ax_g hX 0) ?_
  refine mj_hp (h1 := X ++ [.inr (8, [.int 1, .int 1, .int 1, .int 0, .int (-2), .int 0, .null, .null, .null, .null, .null, .null, .null, .null, .null, .null, .null, .null, .int 0, .int 0, .int 0, .int 0, .int 0, .int 0, .int 0, .int 0, .int 0])]) (ax_s hX 0 _ rfl) ?_
  refine mj_aload_n d_Mo_init_25 rfl ?_
  refine mj_iconst (v := 3) d_Mo_init_26 (by decide) ?_
  refine mj_newi (N := 3) (kc := 11) (ks := 4463) ac_int d_Mo_init_27 (by decide) (by decide) (by decide) ?_
  refine mj_ra (n := 28) (ax_l hX) ?_
  refine mj_hp (h1 := X ++ [.inr (8, [.int 1, .int 1, .int 1, .int 0, .int (-2), .int 0, .null, .null, .null, .null, .null, .null, .null, .null, .null, .null, .null, .null, .int 0, .int 0, .int 0, .int 0, .int 0, .int 0, .int 0, .int 0, .int 0]), .inl (3, .inl (fun _ => 0))]) (ax_n _ rfl) ?_
  refine mj_putF ok_Mo (k := 6) (by decide) fl_Mo_22 rfl rfl rfl (fun _ => rfl) (fun _ => rfl) (Nat.le_of_ble_eq_true rfl) d_Mo_init_29 (ax_g hX 0) ?_
  refine mj_hp (h1 := X ++ [.inr (8, [.int 1, .int 1, .int 1, .int 0, .int (-2), .int 0, .ref 28, .null, .null, .null, .null, .null, .null, .null, .null, .null, .null, .null, .int 0, .int 0, .int 0, .int 0, .int 0, .int 0, .int 0, .int 0, .int 0]), .inl (3, .inl (fun _ => 0))]) (ax_s hX 0 _ rfl) ?_
  refine mj_aload_n d_Mo_init_32 rfl ?_
  refine mj_iconst (v := 3) d_Mo_init_33 (by decide) ?_
  refine mj_newi (N := 3) (kc := 10) (ks := 4460) ac_int d_Mo_init_34 (by decide) (by decide) (by decide) ?_
  refine mj_ra (n := 29) (ax_l hX) ?_
  refine mj_hp (h1 := X ++ [.inr (8, [.int 1, .int 1, .int 1, .int 0, .int (-2), .int 0, .ref 28, .null, .null, .null, .null, .null, .null, .null, .null, .null, .null, .null, .int 0, .int 0, .int 0, .int 0, .int 0, .int 0, .int 0, .int 0, .int 0]), .inl (3, .inl (fun _ => 0)), .inl (3, .inl (fun _ => 0))]) (ax_n _ rfl) ?_
  refine mj_putF ok_Mo (k := 7) (by decide) fl_Mo_26 rfl rfl rfl (fun _ => rfl) (fun _ => rfl) (Nat.le_of_ble_eq_true rfl) d_Mo_init_36 (ax_g hX 0) ?_
  refine mj_hp (h1 := X ++ [.inr (8, [.int 1, .int 1, .int 1, .int 0, .int (-2), .int 0, .ref 28, .ref 29, .null, .null, .null, .null, .null, .null, .null, .null, .null, .null, .int 0, .int 0, .int 0, .int 0, .int 0, .int 0, .int 0, .int 0, .int 0]), .inl (3, .inl (fun _ => 0)), .inl (3, .inl (fun _ => 0))]) (ax_s hX 0 _ rfl) ?_
  refine mj_aload_n d_Mo_init_39 rfl ?_
  refine mj_iconst (v := 3) d_Mo_init_40 (by decide) ?_
  refine mj_newi (N := 3) (kc := 9) (ks := 4457) ac_int d_Mo_init_41 (by decide) (by decide) (by decide) ?_
  refine mj_ra (n := 30) (ax_l hX) ?_
  refine mj_hp (h1 := X ++ [.inr (8, [.int 1, .int 1, .int 1, .int 0, .int (-2), .int 0, .ref 28, .ref 29, .null, .null, .null, .null, .null, .null, .null, .null, .null, .null, .int 0, .int 0, .int 0, .int 0, .int 0, .int 0, .int 0, .int 0, .int 0]), .inl (3, .inl (fun _ => 0)), .inl (3, .inl (fun _ => 0)), .inl (3, .inl (fun _ => 0))]) (ax_n _ rfl) ?_
  refine mj_putF ok_Mo (k := 8) (by decide) fl_Mo_29 rfl rfl rfl (fun _ => rfl) (fun _ => rfl) (Nat.le_of_ble_eq_true rfl) d_Mo_init_43 (ax_g hX 0) ?_
  refine mj_hp (h1 := X ++ [.inr (8, [.int 1, .int 1, .int 1, .int 0, .int (-2), .int 0, .ref 28, .ref 29, .ref 30, .null, .null, .null, .null, .null, .null, .null, .null, .null, .int 0, .int 0, .int 0, .int 0, .int 0, .int 0, .int 0, .int 0, .int 0]), .inl (3, .inl (fun _ => 0)), .inl (3, .inl (fun _ => 0)), .inl (3, .inl (fun _ => 0))]) (ax_s hX 0 _ rfl) ?_
  refine mj_aload_n d_Mo_init_46 rfl ?_
  refine mj_sipush (v := 192) d_Mo_init_47 (by decide) ?_
  refine mj_newi (N := 192) (kc := 8) (ks := 4265) ac_int d_Mo_init_50 (by decide) (by decide) (by decide) ?_
  refine mj_ra (n := 31) (ax_l hX) ?_
  refine mj_hp (h1 := X ++ [.inr (8, [.int 1, .int 1, .int 1, .int 0, .int (-2), .int 0, .ref 28, .ref 29, .ref 30, .null, .null, .null, .null, .null, .null, .null, .null, .null, .int 0, .int 0, .int 0, .int 0, .int 0, .int 0, .int 0, .int 0, .int 0]), .inl (3, .inl (fun _ => 0)), .inl (3, .inl (fun _ => 0)), .inl (3, .inl (fun _ => 0)), .inl (192, .inl (fun _ => 0))]) (ax_n _ rfl) ?_
  refine mj_putF ok_Mo (k := 9) (by decide) fl_Mo_32 rfl rfl rfl (fun _ => rfl) (fun _ => rfl) (Nat.le_of_ble_eq_true rfl) d_Mo_init_52 (ax_g hX 0) ?_
  refine mj_hp (h1 := X ++ [.inr (8, [.int 1, .int 1, .int 1, .int 0, .int (-2), .int 0, .ref 28, .ref 29, .ref 30, .ref 31, .null, .null, .null, .null, .null, .null, .null, .null, .int 0, .int 0, .int 0, .int 0, .int 0, .int 0, .int 0, .int 0, .int 0]), .inl (3, .inl (fun _ => 0)), .inl (3, .inl (fun _ => 0)), .inl (3, .inl (fun _ => 0)), .inl (192, .inl (fun _ => 0))]) (ax_s hX 0 _ rfl) ?_
  refine mj_aload_n d_Mo_init_55 rfl ?_
  refine mj_sipush (v := 1500) d_Mo_init_56 (by decide) ?_
  refine mj_newi (N := 1500) (kc := 7) (ks := 2765) ac_int d_Mo_init_59 (by decide) (by decide) (by decide) ?_
  refine mj_ra (n := 32) (ax_l hX) ?_
  refine mj_hp (h1 := X ++ [.inr (8, [.int 1, .int 1, .int 1, .int 0, .int (-2), .int 0, .ref 28, .ref 29, .ref 30, .ref 31, .null, .null, .null, .null, .null, .null, .null, .null, .int 0, .int 0, .int 0, .int 0, .int 0, .int 0, .int 0, .int 0, .int 0]), .inl (3, .inl (fun _ => 0)), .inl (3, .inl (fun _ => 0)), .inl (3, .inl (fun _ => 0)), .inl (192, .inl (fun _ => 0)), .inl (1500, .inl (fun _ => 0))]) (ax_n _ rfl) ?_
  refine mj_putF ok_Mo (k := 10) (by decide) fl_Mo_35 rfl rfl rfl (fun _ => rfl) (fun _ => rfl) (Nat.le_of_ble_eq_true rfl) d_Mo_init_61 (ax_g hX 0) ?_
  refine mj_hp (h1 := X ++ [.inr (8, [.int 1, .int 1, .int 1, .int 0, .int (-2), .int 0, .ref 28, .ref 29, .ref 30, .ref 31, .ref 32, .null, .null, .null, .null, .null, .null, .null, .int 0, .int 0, .int 0, .int 0, .int 0, .int 0, .int 0, .int 0, .int 0]), .inl (3, .inl (fun _ => 0)), .inl (3, .inl (fun _ => 0)), .inl (3, .inl (fun _ => 0)), .inl (192, .inl (fun _ => 0)), .inl (1500, .inl (fun _ => 0))]) (ax_s hX 0 _ rfl) ?_
  refine mj_aload_n d_Mo_init_64 rfl ?_
  refine mj_iconst (v := 3) d_Mo_init_65 (by decide) ?_
  refine mj_newi (N := 3) (kc := 6) (ks := 2762) ac_int d_Mo_init_66 (by decide) (by decide) (by decide) ?_
  refine mj_ra (n := 33) (ax_l hX) ?_
  refine mj_hp (h1 := X ++ [.inr (8, [.int 1, .int 1, .int 1, .int 0, .int (-2), .int 0, .ref 28, .ref 29, .ref 30, .ref 31, .ref 32, .null, .null, .null, .null, .null, .null, .null, .int 0, .int 0, .int 0, .int 0, .int 0, .int 0, .int 0, .int 0, .int 0]), .inl (3, .inl (fun _ => 0)), .inl (3, .inl (fun _ => 0)), .inl (3, .inl (fun _ => 0)), .inl (192, .inl (fun _ => 0)), .inl (1500, .inl (fun _ => 0)), .inl (3, .inl (fun _ => 0))]) (ax_n _ rfl) ?_
  refine mj_putF ok_Mo (k := 11) (by decide) fl_Mo_38 rfl rfl rfl (fun _ => rfl) (fun _ => rfl) (Nat.le_of_ble_eq_true rfl) d_Mo_init_68 (ax_g hX 0) ?_
  refine mj_hp (h1 := X ++ [.inr (8, [.int 1, .int 1, .int 1, .int 0, .int (-2), .int 0, .ref 28, .ref 29, .ref 30, .ref 31, .ref 32, .ref 33, .null, .null, .null, .null, .null, .null, .int 0, .int 0, .int 0, .int 0, .int 0, .int 0, .int 0, .int 0, .int 0]), .inl (3, .inl (fun _ => 0)), .inl (3, .inl (fun _ => 0)), .inl (3, .inl (fun _ => 0)), .inl (192, .inl (fun _ => 0)), .inl (1500, .inl (fun _ => 0)), .inl (3, .inl (fun _ => 0))]) (ax_s hX 0 _ rfl) ?_
  refine mj_aload_n d_Mo_init_71 rfl ?_
  refine mj_iconst (v := 3) d_Mo_init_72 (by decide) ?_
  refine mj_newi (N := 3) (kc := 5) (ks := 2759) ac_int d_Mo_init_73 (by decide) (by decide) (by decide) ?_
  refine mj_ra (n := 34) (ax_l hX) ?_
  refine mj_hp (h1 := X ++ [.inr (8, [.int 1, .int 1, .int 1, .int 0, .int (-2), .int 0, .ref 28, .ref 29, .ref 30, .ref 31, .ref 32, .ref 33, .null, .null, .null, .null, .null, .null, .int 0, .int 0, .int 0, .int 0, .int 0, .int 0, .int 0, .int 0, .int 0]), .inl (3, .inl (fun _ => 0)), .inl (3, .inl (fun _ => 0)), .inl (3, .inl (fun _ => 0)), .inl (192, .inl (fun _ => 0)), .inl (1500, .inl (fun _ => 0)), .inl (3, .inl (fun _ => 0)), .inl (3, .inl (fun _ => 0))]) (ax_n _ rfl) ?_
  refine mj_putF ok_Mo (k := 12) (by decide) fl_Mo_41 rfl rfl rfl (fun _ => rfl) (fun _ => rfl) (Nat.le_of_ble_eq_true rfl) d_Mo_init_75 (ax_g hX 0) ?_
  refine mj_hp (h1 := X ++ [.inr (8, [.int 1, .int 1, .int 1, .int 0, .int (-2), .int 0, .ref 28, .ref 29, .ref 30, .ref 31, .ref 32, .ref 33, .ref 34, .null, .null, .null, .null, .null, .int 0, .int 0, .int 0, .int 0, .int 0, .int 0, .int 0, .int 0, .int 0]), .inl (3, .inl (fun _ => 0)), .inl (3, .inl (fun _ => 0)), .inl (3, .inl (fun _ => 0)), .inl (192, .inl (fun _ => 0)), .inl (1500, .inl (fun _ => 0)), .inl (3, .inl (fun _ => 0)), .inl (3, .inl (fun _ => 0))]) (ax_s hX 0 _ rfl) ?_
  refine mj_aload_n d_Mo_init_78 rfl ?_
  refine mj_iconst (v := 3) d_Mo_init_79 (by decide) ?_
  refine mj_newi (N := 3) (kc := 4) (ks := 2756) ac_int d_Mo_init_80 (by decide) (by decide) (by decide) ?_
  refine mj_ra (n := 35) (ax_l hX) ?_
  refine mj_hp (h1 := X ++ [.inr (8, [.int 1, .int 1, .int 1, .int 0, .int (-2), .int 0, .ref 28, .ref 29, .ref 30, .ref 31, .ref 32, .ref 33, .ref 34, .null, .null, .null, .null, .null, .int 0, .int 0, .int 0, .int 0, .int 0, .int 0, .int 0, .int 0, .int 0]), .inl (3, .inl (fun _ => 0)), .inl (3, .inl (fun _ => 0)), .inl (3, .inl (fun _ => 0)), .inl (192, .inl (fun _ => 0)), .inl (1500, .inl (fun _ => 0)), .inl (3, .inl (fun _ => 0)), .inl (3, .inl (fun _ => 0)), .inl (3, .inl (fun _ => 0))]) (ax_n _ rfl) ?_
  refine mj_putF ok_Mo (k := 13) (by decide) fl_Mo_44 rfl rfl rfl (fun _ => rfl) (fun _ => rfl) (Nat.le_of_ble_eq_true rfl) d_Mo_init_82 (ax_g hX 0) ?_
  refine mj_hp (h1 := X ++ [.inr (8, [.int 1, .int 1, .int 1, .int 0, .int (-2), .int 0, .ref 28, .ref 29, .ref 30, .ref 31, .ref 32, .ref 33, .ref 34, .ref 35, .null, .null, .null, .null, .int 0, .int 0, .int 0, .int 0, .int 0, .int 0, .int 0, .int 0, .int 0]), .inl (3, .inl (fun _ => 0)), .inl (3, .inl (fun _ => 0)), .inl (3, .inl (fun _ => 0)), .inl (192, .inl (fun _ => 0)), .inl (1500, .inl (fun _ => 0)), .inl (3, .inl (fun _ => 0)), .inl (3, .inl (fun _ => 0)), .inl (3, .inl (fun _ => 0))]) (ax_s hX 0 _ rfl) ?_
  refine mj_aload_n d_Mo_init_85 rfl ?_
  refine mj_sipush (v := 192) d_Mo_init_86 (by decide) ?_
  refine mj_newi (N := 192) (kc := 3) (ks := 2564) ac_int d_Mo_init_89 (by decide) (by decide) (by decide) ?_
  refine mj_ra (n := 36) (ax_l hX) ?_
  refine mj_hp (h1 := X ++ [.inr (8, [.int 1, .int 1, .int 1, .int 0, .int (-2), .int 0, .ref 28, .ref 29, .ref 30, .ref 31, .ref 32, .ref 33, .ref 34, .ref 35, .null, .null, .null, .null, .int 0, .int 0, .int 0, .int 0, .int 0, .int 0, .int 0, .int 0, .int 0]), .inl (3, .inl (fun _ => 0)), .inl (3, .inl (fun _ => 0)), .inl (3, .inl (fun _ => 0)), .inl (192, .inl (fun _ => 0)), .inl (1500, .inl (fun _ => 0)), .inl (3, .inl (fun _ => 0)), .inl (3, .inl (fun _ => 0)), .inl (3, .inl (fun _ => 0)), .inl (192, .inl (fun _ => 0))]) (ax_n _ rfl) ?_
  refine mj_putF ok_Mo (k := 14) (by decide) fl_Mo_47 rfl rfl rfl (fun _ => rfl) (fun _ => rfl) (Nat.le_of_ble_eq_true rfl) d_Mo_init_91 (ax_g hX 0) ?_
  refine mj_hp (h1 := X ++ [.inr (8, [.int 1, .int 1, .int 1, .int 0, .int (-2), .int 0, .ref 28, .ref 29, .ref 30, .ref 31, .ref 32, .ref 33, .ref 34, .ref 35, .ref 36, .null, .null, .null, .int 0, .int 0, .int 0, .int 0, .int 0, .int 0, .int 0, .int 0, .int 0]), .inl (3, .inl (fun _ => 0)), .inl (3, .inl (fun _ => 0)), .inl (3, .inl (fun _ => 0)), .inl (192, .inl (fun _ => 0)), .inl (1500, .inl (fun _ => 0)), .inl (3, .inl (fun _ => 0)), .inl (3, .inl (fun _ => 0)), .inl (3, .inl (fun _ => 0)), .inl (192, .inl (fun _ => 0))]) (ax_s hX 0 _ rfl) ?_
  refine mj_aload_n d_Mo_init_94 rfl ?_
  refine mj_sipush (v := 800) d_Mo_init_95 (by decide) ?_
  refine mj_newi (N := 800) (kc := 2) (ks := 1764) ac_int d_Mo_init_98 (by decide) (by decide) (by decide) ?_
  refine mj_ra (n := 37) (ax_l hX) ?_
  refine mj_hp (h1 := X ++ [.inr (8, [.int 1, .int 1, .int 1, .int 0, .int (-2), .int 0, .ref 28, .ref 29, .ref 30, .ref 31, .ref 32, .ref 33, .ref 34, .ref 35, .ref 36, .null, .null, .null, .int 0, .int 0, .int 0, .int 0, .int 0, .int 0, .int 0, .int 0, .int 0]), .inl (3, .inl (fun _ => 0)), .inl (3, .inl (fun _ => 0)), .inl (3, .inl (fun _ => 0)), .inl (192, .inl (fun _ => 0)), .inl (1500, .inl (fun _ => 0)), .inl (3, .inl (fun _ => 0)), .inl (3, .inl (fun _ => 0)), .inl (3, .inl (fun _ => 0)), .inl (192, .inl (fun _ => 0)), .inl (800, .inl (fun _ => 0))]) (ax_n _ rfl) ?_
  refine mj_putF ok_Mo (k := 15) (by decide) fl_Mo_50 rfl rfl rfl (fun _ => rfl) (fun _ => rfl) (Nat.le_of_ble_eq_true rfl) d_Mo_init_100 (ax_g hX 0) ?_
  refine mj_hp (h1 := X ++ [.inr (8, [.int 1, .int 1, .int 1, .int 0, .int (-2), .int 0, .ref 28, .ref 29, .ref 30, .ref 31, .ref 32, .ref 33, .ref 34, .ref 35, .ref 36, .ref 37, .null, .null, .int 0, .int 0, .int 0, .int 0, .int 0, .int 0, .int 0, .int 0, .int 0]), .inl (3, .inl (fun _ => 0)), .inl (3, .inl (fun _ => 0)), .inl (3, .inl (fun _ => 0)), .inl (192, .inl (fun _ => 0)), .inl (1500, .inl (fun _ => 0)), .inl (3, .inl (fun _ => 0)), .inl (3, .inl (fun _ => 0)), .inl (3, .inl (fun _ => 0)), .inl (192, .inl (fun _ => 0)), .inl (800, .inl (fun _ => 0))]) (ax_s hX 0 _ rfl) ?_
  refine mj_aload_n d_Mo_init_103 rfl ?_
  refine mj_sipush (v := 1700) d_Mo_init_104 (by decide) ?_
  refine mj_newi (N := 1700) (kc := 1) (ks := 64) ac_int d_Mo_init_107 (by decide) (by decide) (by decide) ?_
  refine mj_ra (n := 38) (ax_l hX) ?_
  refine mj_hp (h1 := X ++ [.inr (8, [.int 1, .int 1, .int 1, .int 0, .int (-2), .int 0, .ref 28, .ref 29, .ref 30, .ref 31, .ref 32, .ref 33, .ref 34, .ref 35, .ref 36, .ref 37, .null, .null, .int 0, .int 0, .int 0, .int 0, .int 0, .int 0, .int 0, .int 0, .int 0]), .inl (3, .inl (fun _ => 0)), .inl (3, .inl (fun _ => 0)), .inl (3, .inl (fun _ => 0)), .inl (192, .inl (fun _ => 0)), .inl (1500, .inl (fun _ => 0)), .inl (3, .inl (fun _ => 0)), .inl (3, .inl (fun _ => 0)), .inl (3, .inl (fun _ => 0)), .inl (192, .inl (fun _ => 0)), .inl (800, .inl (fun _ => 0)), .inl (1700, .inl (fun _ => 0))]) (ax_n _ rfl) ?_
  refine mj_putF ok_Mo (k := 16) (by decide) fl_Mo_53 rfl rfl rfl (fun _ => rfl) (fun _ => rfl) (Nat.le_of_ble_eq_true rfl) d_Mo_init_109 (ax_g hX 0) ?_
  refine mj_hp (h1 := X ++ [.inr (8, [.int 1, .int 1, .int 1, .int 0, .int (-2), .int 0, .ref 28, .ref 29, .ref 30, .ref 31, .ref 32, .ref 33, .ref 34, .ref 35, .ref 36, .ref 37, .ref 38, .null, .int 0, .int 0, .int 0, .int 0, .int 0, .int 0, .int 0, .int 0, .int 0]), .inl (3, .inl (fun _ => 0)), .inl (3, .inl (fun _ => 0)), .inl (3, .inl (fun _ => 0)), .inl (192, .inl (fun _ => 0)), .inl (1500, .inl (fun _ => 0)), .inl (3, .inl (fun _ => 0)), .inl (3, .inl (fun _ => 0)), .inl (3, .inl (fun _ => 0)), .inl (192, .inl (fun _ => 0)), .inl (800, .inl (fun _ => 0)), .inl (1700, .inl (fun _ => 0))]) (ax_s hX 0 _ rfl) ?_
  refine mj_aload_n d_Mo_init_112 rfl ?_
  refine mj_bipush (v := 64) d_Mo_init_113 (by decide) ?_
  refine mj_newi (N := 64) (kc := 0) (ks := 0) ac_int d_Mo_init_115 (by decide) (by decide) (by decide) ?_
  refine mj_ra (n := 39) (ax_l hX) ?_
  refine mj_hp (h1 := X ++ [.inr (8, [.int 1, .int 1, .int 1, .int 0, .int (-2), .int 0, .ref 28, .ref 29, .ref 30, .ref 31, .ref 32, .ref 33, .ref 34, .ref 35, .ref 36, .ref 37, .ref 38, .null, .int 0, .int 0, .int 0, .int 0, .int 0, .int 0, .int 0, .int 0, .int 0]), .inl (3, .inl (fun _ => 0)), .inl (3, .inl (fun _ => 0)), .inl (3, .inl (fun _ => 0)), .inl (192, .inl (fun _ => 0)), .inl (1500, .inl (fun _ => 0)), .inl (3, .inl (fun _ => 0)), .inl (3, .inl (fun _ => 0)), .inl (3, .inl (fun _ => 0)), .inl (192, .inl (fun _ => 0)), .inl (800, .inl (fun _ => 0)), .inl (1700, .inl (fun _ => 0)), .inl (64, .inl (fun _ => 0))]) (ax_n _ rfl) ?_
  refine mj_putF ok_Mo (k := 17) (by decide) fl_Mo_56 rfl rfl rfl (fun _ => rfl) (fun _ => rfl) (Nat.le_of_ble_eq_true rfl) d_Mo_init_117 (ax_g hX 0) ?_
  refine mj_hp (h1 := X ++ [.inr (8, [.int 1, .int 1, .int 1, .int 0, .int (-2), .int 0, .ref 28, .ref 29, .ref 30, .ref 31, .ref 32, .ref 33, .ref 34, .ref 35, .ref 36, .ref 37, .ref 38, .ref 39, .int 0, .int 0, .int 0, .int 0, .int 0, .int 0, .int 0, .int 0, .int 0]), .inl (3, .inl (fun _ => 0)), .inl (3, .inl (fun _ => 0)), .inl (3, .inl (fun _ => 0)), .inl (192, .inl (fun _ => 0)), .inl (1500, .inl (fun _ => 0)), .inl (3, .inl (fun _ => 0)), .inl (3, .inl (fun _ => 0)), .inl (3, .inl (fun _ => 0)), .inl (192, .inl (fun _ => 0)), .inl (800, .inl (fun _ => 0)), .inl (1700, .inl (fun _ => 0)), .inl (64, .inl (fun _ => 0))]) (ax_s hX 0 _ rfl) ?_
  refine mj_aload_n d_Mo_init_120 rfl ?_
  refine mj_get ok_Mo (k := 6) (by decide) fl_Mo_22 d_Mo_init_121 (ax_g hX 0) rfl ?_
  refine mj_iconst (v := 0) d_Mo_init_124 (by decide) ?_
  refine mj_bipush (v := 97) d_Mo_init_125 (by decide) ?_
  refine mj_iast d_Mo_init_127 (ax_g hX 1) (by unfold vp_in; decide) ?_
  refine mj_hp (h1 := X ++ [.inr (8, [.int 1, .int 1, .int 1, .int 0, .int (-2), .int 0, .ref 28, .ref 29, .ref 30, .ref 31, .ref 32, .ref 33, .ref 34, .ref 35, .ref 36, .ref 37, .ref 38, .ref 39, .int 0, .int 0, .int 0, .int 0, .int 0, .int 0, .int 0, .int 0, .int 0]), .inl (3, .inl (upd (fun _ => 0) 0 97)), .inl (3, .inl (fun _ => 0)), .inl (3, .inl (fun _ => 0)), .inl (192, .inl (fun _ => 0)), .inl (1500, .inl (fun _ => 0)), .inl (3, .inl (fun _ => 0)), .inl (3, .inl (fun _ => 0)), .inl (3, .inl (fun _ => 0)), .inl (192, .inl (fun _ => 0)), .inl (800, .inl (fun _ => 0)), .inl (1700, .inl (fun _ => 0)), .inl (64, .inl (fun _ => 0))]) (ax_s hX 1 _ rfl) ?_
  refine mj_aload_n d_Mo_init_128 rfl ?_
  refine mj_get ok_Mo (k := 8) (by decide) fl_Mo_29 d_Mo_init_129 (ax_g hX 0) rfl ?_
  refine mj_iconst (v := 0) d_Mo_init_132 (by decide) ?_
  refine mj_iconst (v := 1) d_Mo_init_133 (by decide) ?_
  refine mj_iast d_Mo_init_134 (ax_g hX 3) (by unfold vp_in; decide) ?_
  refine mj_hp (h1 := X ++ [.inr (8, [.int 1, .int 1, .int 1, .int 0, .int (-2), .int 0, .ref 28, .ref 29, .ref 30, .ref 31, .ref 32, .ref 33, .ref 34, .ref 35, .ref 36, .ref 37, .ref 38, .ref 39, .int 0, .int 0, .int 0, .int 0, .int 0, .int 0, .int 0, .int 0, .int 0]), .inl (3, .inl (upd (fun _ => 0) 0 97)), .inl (3, .inl (fun _ => 0)), .inl (3, .inl (upd (fun _ => 0) 0 1)), .inl (192, .inl (fun _ => 0)), .inl (1500, .inl (fun _ => 0)), .inl (3, .inl (fun _ => 0)), .inl (3, .inl (fun _ => 0)), .inl (3, .inl (fun _ => 0)), .inl (192, .inl (fun _ => 0)), .inl (800, .inl (fun _ => 0)), .inl (1700, .inl (fun _ => 0)), .inl (64, .inl (fun _ => 0))]) (ax_s hX 3 _ rfl) ?_
  exact mj_vret rfl d_Mo_init_135 ⟨rfl, rfl⟩
