set_option maxRecDepth 100000 in
set_option maxHeartbeats 4000000 in
theorem c_RF_init {h : mj_H} {a n : Nat} (ha : h[a]? = some (.inr (0, [.null, .null, .null, .null, .null, .null, .int 0]))) (hn : h.length = n) : mj_Met M_RF_init (4, 81, none) 26 3142 [.ref a] h (mj_q none (pi_up (pi_up ((((((((((((((((((((((((((((((((((((((((((((((((((((((h ++ ([.inr (1, [.null, .int 0, .int 0])] : mj_H)) ++ ([.inl (1500, .inl (fun _ => 0))] : mj_H)).set n (.inr (1, [.ref (n + 1), .int 0, .int 0]))).set a (.inr (0, [.ref n, .null, .null, .null, .null, .null, .int 0]))) ++ ([.inr (2, [.null, .null, .null, .null])] : mj_H)) ++ ([.inr (1, [.null, .int 0, .int 0])] : mj_H)) ++ ([.inl (384, .inl (fun _ => 0))] : mj_H)).set (n + 3) (.inr (1, [.ref (n + 4), .int 0, .int 0]))).set (n + 2) (.inr (2, [.ref (n + 3), .null, .null, .null]))) ++ ([.inr (1, [.null, .int 0, .int 0])] : mj_H)) ++ ([.inl (400, .inl (fun _ => 0))] : mj_H)).set (n + 5) (.inr (1, [.ref (n + 6), .int 0, .int 0]))).set (n + 2) (.inr (2, [.ref (n + 3), .ref (n + 5), .null, .null]))) ++ ([.inr (3, [.null])] : mj_H)) ++ ([.inr (1, [.null, .int 0, .int 0])] : mj_H)) ++ ([.inl (384, .inl (fun _ => 0))] : mj_H)).set (n + 8) (.inr (1, [.ref (n + 9), .int 0, .int 0]))).set (n + 7) (.inr (3, [.ref (n + 8)]))).set (n + 2) (.inr (2, [.ref (n + 3), .ref (n + 5), .ref (n + 7), .null]))) ++ ([.inr (6, [.null])] : mj_H)) ++ ([.inl (32, .inl (fun _ => 0))] : mj_H)).set (n + 10) (.inr (6, [.ref (n + 11)]))).set (n + 2) (.inr (2, [.ref (n + 3), .ref (n + 5), .ref (n + 7), .ref (n + 10)]))).set a (.inr (0, [.ref n, .ref (n + 2), .null, .null, .null, .null, .int 0]))) ++ ([.inr (7, [])] : mj_H)).set a (.inr (0, [.ref n, .ref (n + 2), .ref (n + 12), .null, .null, .null, .int 0]))) ++ ([.inr (5, [.int 0, .int 0, .int 0, .null, .int 0])] : mj_H)).set (n + 13) (.inr (5, [.int (-2), .int 0, .int 0, .null, .int 0]))) ++ ([.inr (1, [.null, .int 0, .int 0])] : mj_H)) ++ ([.inl (0, .inl (fun _ => 0))] : mj_H)).set (n + 14) (.inr (1, [.ref (n + 15), .int 0, .int 0]))).set (n + 13) (.inr (5, [.int (-2), .int 0, .int 0, .ref (n + 14), .int 0]))).set a (.inr (0, [.ref n, .ref (n + 2), .ref (n + 12), .ref (n + 13), .null, .null, .int 0]))) ++ ([.inr (4, [.int 0, .int 0, .int 0, .null, .null, .null, .null])] : mj_H)) ++ ([.inl (3, .inl (fun _ => 0))] : mj_H)).set (n + 16) (.inr (4, [.int 0, .int 0, .int 0, .ref (n + 17), .null, .null, .null]))) ++ ([.inl (3, .inl (fun _ => 0))] : mj_H)).set (n + 16) (.inr (4, [.int 0, .int 0, .int 0, .ref (n + 17), .ref (n + 18), .null, .null]))) ++ ([.inl (3, .inl (fun _ => 0))] : mj_H)).set (n + 16) (.inr (4, [.int 0, .int 0, .int 0, .ref (n + 17), .ref (n + 18), .ref (n + 19), .null]))) ++ ([.inl (192, .inl (fun _ => 0))] : mj_H)).set (n + 16) (.inr (4, [.int 0, .int 0, .int 0, .ref (n + 17), .ref (n + 18), .ref (n + 19), .ref (n + 20)]))).set a (.inr (0, [.ref n, .ref (n + 2), .ref (n + 12), .ref (n + 13), .ref (n + 16), .null, .int 0]))) ++ ([.inr (4, [.int 0, .int 0, .int 0, .null, .null, .null, .null])] : mj_H)) ++ ([.inl (3, .inl (fun _ => 0))] : mj_H)).set (n + 21) (.inr (4, [.int 0, .int 0, .int 0, .ref (n + 22), .null, .null, .null]))) ++ ([.inl (3, .inl (fun _ => 0))] : mj_H)).set (n + 21) (.inr (4, [.int 0, .int 0, .int 0, .ref (n + 22), .ref (n + 23), .null, .null]))) ++ ([.inl (3, .inl (fun _ => 0))] : mj_H)).set (n + 21) (.inr (4, [.int 0, .int 0, .int 0, .ref (n + 22), .ref (n + 23), .ref (n + 24), .null]))) ++ ([.inl (192, .inl (fun _ => 0))] : mj_H)).set (n + 21) (.inr (4, [.int 0, .int 0, .int 0, .ref (n + 22), .ref (n + 23), .ref (n + 24), .ref (n + 25)]))).set a (.inr (0, [.ref n, .ref (n + 2), .ref (n + 12), .ref (n + 13), .ref (n + 16), .ref (n + 21), .int 0]))).set a (.inr (0, [.ref n, .ref (n + 2), .ref (n + 12), .ref (n + 13), .ref (n + 16), .ref (n + 21), .int (-2)]))) (n + 16) (n + 17) (n + 18) (n + 19) (n + 20) (pi_new ((0, 0, 0, (fun _ => 0), (fun _ => 0), (fun _ => 0), (fun _ => 0)) : pi_P) 1 1)) (n + 16) (n + 17) (n + 18) (n + 19) (n + 20) (pi_add (pi_new ((0, 0, 0, (fun _ => 0), (fun _ => 0), (fun _ => 0), (fun _ => 0)) : pi_P) 1 1) 97 0 1))) := by
  have han : a < n := by rw [← hn]; exact (List.getElem?_eq_some_iff.mp ha).1
  refine mj_enter (r := 0) rfl rfl (by decide) rfl ?_
  show mj_W M_RF_init _ _ _ _ 0 [some (.ref a)] [] h
  refine mj_aload_n d_RF_init_0 rfl ?_
  refine mj_objInit d_RF_init_1 ml_RF_1 im_Ob_init cd_Ob_init (by decide) (Nat.le_of_ble_eq_true rfl) ?_
  refine mj_aload_n d_RF_init_4 rfl ?_
  refine mj_new (kc := 25) (ks := 3139) (fs := [.null, .int 0, .int 0]) ok_By cl_RF_7 ia_By in_By d_RF_init_5 nf_By (fun _ => rfl) ?_
  refine mj_ra hn ?_
  obtain ⟨hh1, e_hh1⟩ : ∃ q_ : mj_H, q_ = h ++ [.inr (1, [.null, .int 0, .int 0])] := ⟨_, rfl⟩
  refine mj_hp e_hh1 ?_
  have k2 := mj_al (t := [.inr (1, [.null, .int 0, .int 0])]) ha
  rw [← e_hh1] at k2
  have k3 := mj_ae (x := .inr (1, [.null, .int 0, .int 0])) hn
  rw [← e_hh1] at k3
  have l4 := mj_an (x := .inr (1, [.null, .int 0, .int 0])) hn
  rw [← e_hh1] at l4
  refine mj_dup d_RF_init_8 rfl ?_
  refine mj_sipush (v := 1500) d_RF_init_9 (by decide) ?_
  refine mj_cI (kc := 24) (ks := 1639) (S := [.ref n, .ref a]) (S1 := [.ref n, .ref a]) (c_By_initK (k := 1500) k3 l4 (by decide)) rfl rfl d_RF_init_12 cw_By_init ml_RF_11 im_By_init (by decide) rfl (Nat.le_of_ble_eq_true rfl) rfl rfl ?_
  obtain ⟨hh5, e_hh5⟩ : ∃ q_ : mj_H, q_ = hh1 ++ ([.inl (1500, .inl (fun _ => 0))] : mj_H) := ⟨_, rfl⟩
  have k6 := mj_al (t := [.inl (1500, .inl (fun _ => 0))]) k2
  rw [← e_hh5] at k6
  have k7 := mj_al (t := [.inl (1500, .inl (fun _ => 0))]) k3
  rw [← e_hh5] at k7
  have k8 := mj_ae (x := .inl (1500, .inl (fun _ => 0))) l4
  rw [← e_hh5] at k8
  have l9 := mj_an (x := .inl (1500, .inl (fun _ => 0))) l4
  rw [← e_hh5] at l9
  obtain ⟨hh10, e_hh10⟩ : ∃ q_ : mj_H, q_ = hh5.set n (.inr (1, [.ref (n + 1), .int 0, .int 0])) := ⟨_, rfl⟩
  have k11 := mj_sN (y := .inr (1, [.ref (n + 1), .int 0, .int 0])) (show (n : Nat) ≠ a from (Nat.ne_of_lt (Nat.lt_of_lt_of_le han (Nat.le_add_right n 0))).symm) k6
  rw [← e_hh10] at k11
  have k12 : hh10[n]? = some (.inr (1, [.ref (n + 1), .int 0, .int 0])) := by rw [e_hh10]; exact mj_sS k7
  have k13 := mj_sN (y := .inr (1, [.ref (n + 1), .int 0, .int 0])) (show (n : Nat) ≠ (n + 1) from fun h9 => absurd (Nat.add_left_cancel (show n + 0 = n + 1 from h9)) (by decide)) k8
  rw [← e_hh10] at k13
  have l14 : hh10.length = (n + 2) := by rw [e_hh10, List.length_set]; exact l9
  refine mj_hp (h1 := hh10) (by rw [e_hh10, e_hh5]) ?_
  refine mj_putF ok_RF (k := 0) (by decide) fl_RF_14 rfl rfl rfl (fun _ => rfl) (fun _ => rfl) (Nat.le_of_ble_eq_true rfl) d_RF_init_15 k11 ?_
  obtain ⟨hh15, e_hh15⟩ : ∃ q_ : mj_H, q_ = hh10.set a (.inr (0, [.ref n, .null, .null, .null, .null, .null, .int 0])) := ⟨_, rfl⟩
  refine mj_hp e_hh15 ?_
  have k16 : hh15[a]? = some (.inr (0, [.ref n, .null, .null, .null, .null, .null, .int 0])) := by rw [e_hh15]; exact mj_sS k11
  have k17 := mj_sN (y := .inr (0, [.ref n, .null, .null, .null, .null, .null, .int 0])) (show (a : Nat) ≠ n from Nat.ne_of_lt (Nat.lt_of_lt_of_le han (Nat.le_add_right n 0))) k12
  rw [← e_hh15] at k17
  have k18 := mj_sN (y := .inr (0, [.ref n, .null, .null, .null, .null, .null, .int 0])) (show (a : Nat) ≠ (n + 1) from Nat.ne_of_lt (Nat.lt_of_lt_of_le han (Nat.le_add_right n 1))) k13
  rw [← e_hh15] at k18
  have l19 : hh15.length = (n + 2) := by rw [e_hh15, List.length_set]; exact l14
  refine mj_aload_n d_RF_init_18 rfl ?_
  refine mj_new (kc := 23) (ks := 1635) (fs := [.null, .null, .null, .null]) ok_Co cl_RF_18 ia_Co in_Co d_RF_init_19 nf_Co (fun _ => rfl) ?_
  refine mj_ra l19 ?_
  obtain ⟨hh20, e_hh20⟩ : ∃ q_ : mj_H, q_ = hh15 ++ [.inr (2, [.null, .null, .null, .null])] := ⟨_, rfl⟩
  refine mj_hp e_hh20 ?_
  have k21 := mj_al (t := [.inr (2, [.null, .null, .null, .null])]) k16
  rw [← e_hh20] at k21
  have k22 := mj_al (t := [.inr (2, [.null, .null, .null, .null])]) k17
  rw [← e_hh20] at k22
  have k23 := mj_al (t := [.inr (2, [.null, .null, .null, .null])]) k18
  rw [← e_hh20] at k23
  have k24 := mj_ae (x := .inr (2, [.null, .null, .null, .null])) l19
  rw [← e_hh20] at k24
  have l25 := mj_an (x := .inr (2, [.null, .null, .null, .null])) l19
  rw [← e_hh20] at l25
  refine mj_dup d_RF_init_22 rfl ?_
  refine mj_cIN (kc := 14) (ks := 424) (S := [.ref (n + 2), .ref a]) (S1 := [.ref (n + 2), .ref a]) (c_Co_init k24 l25) rfl rfl d_RF_init_23 cw_Co_init mn_RF_20 im_Co_init (by decide) rfl (Nat.le_of_ble_eq_true rfl) rfl rfl ?_
  obtain ⟨hh26, e_hh26⟩ : ∃ q_ : mj_H, q_ = hh20 ++ ([.inr (1, [.null, .int 0, .int 0])] : mj_H) := ⟨_, rfl⟩
  have k27 := mj_al (t := [.inr (1, [.null, .int 0, .int 0])]) k21
  rw [← e_hh26] at k27
  have k28 := mj_al (t := [.inr (1, [.null, .int 0, .int 0])]) k22
  rw [← e_hh26] at k28
  have k29 := mj_al (t := [.inr (1, [.null, .int 0, .int 0])]) k23
  rw [← e_hh26] at k29
  have k30 := mj_al (t := [.inr (1, [.null, .int 0, .int 0])]) k24
  rw [← e_hh26] at k30
  have k31 := mj_ae (x := .inr (1, [.null, .int 0, .int 0])) l25
  rw [← e_hh26] at k31
  have l32 := mj_an (x := .inr (1, [.null, .int 0, .int 0])) l25
  rw [← e_hh26] at l32
  obtain ⟨hh33, e_hh33⟩ : ∃ q_ : mj_H, q_ = hh26 ++ ([.inl (384, .inl (fun _ => 0))] : mj_H) := ⟨_, rfl⟩
  have k34 := mj_al (t := [.inl (384, .inl (fun _ => 0))]) k27
  rw [← e_hh33] at k34
  have k35 := mj_al (t := [.inl (384, .inl (fun _ => 0))]) k28
  rw [← e_hh33] at k35
  have k36 := mj_al (t := [.inl (384, .inl (fun _ => 0))]) k29
  rw [← e_hh33] at k36
  have k37 := mj_al (t := [.inl (384, .inl (fun _ => 0))]) k30
  rw [← e_hh33] at k37
  have k38 := mj_al (t := [.inl (384, .inl (fun _ => 0))]) k31
  rw [← e_hh33] at k38
  have k39 := mj_ae (x := .inl (384, .inl (fun _ => 0))) l32
  rw [← e_hh33] at k39
  have l40 := mj_an (x := .inl (384, .inl (fun _ => 0))) l32
  rw [← e_hh33] at l40
  obtain ⟨hh41, e_hh41⟩ : ∃ q_ : mj_H, q_ = hh33.set (n + 3) (.inr (1, [.ref (n + 4), .int 0, .int 0])) := ⟨_, rfl⟩
  have k42 := mj_sN (y := .inr (1, [.ref (n + 4), .int 0, .int 0])) (show ((n + 3) : Nat) ≠ a from (Nat.ne_of_lt (Nat.lt_of_lt_of_le han (Nat.le_add_right n 3))).symm) k34
  rw [← e_hh41] at k42
  have k43 := mj_sN (y := .inr (1, [.ref (n + 4), .int 0, .int 0])) (show ((n + 3) : Nat) ≠ n from fun h9 => absurd (Nat.add_left_cancel (show n + 3 = n + 0 from h9)) (by decide)) k35
  rw [← e_hh41] at k43
  have k44 := mj_sN (y := .inr (1, [.ref (n + 4), .int 0, .int 0])) (show ((n + 3) : Nat) ≠ (n + 1) from fun h9 => absurd (Nat.add_left_cancel (show n + 3 = n + 1 from h9)) (by decide)) k36
  rw [← e_hh41] at k44
  have k45 := mj_sN (y := .inr (1, [.ref (n + 4), .int 0, .int 0])) (show ((n + 3) : Nat) ≠ (n + 2) from fun h9 => absurd (Nat.add_left_cancel (show n + 3 = n + 2 from h9)) (by decide)) k37
  rw [← e_hh41] at k45
  have k46 : hh41[(n + 3)]? = some (.inr (1, [.ref (n + 4), .int 0, .int 0])) := by rw [e_hh41]; exact mj_sS k38
  have k47 := mj_sN (y := .inr (1, [.ref (n + 4), .int 0, .int 0])) (show ((n + 3) : Nat) ≠ (n + 4) from fun h9 => absurd (Nat.add_left_cancel (show n + 3 = n + 4 from h9)) (by decide)) k39
  rw [← e_hh41] at k47
  have l48 : hh41.length = (n + 5) := by rw [e_hh41, List.length_set]; exact l40
  obtain ⟨hh49, e_hh49⟩ : ∃ q_ : mj_H, q_ = hh41.set (n + 2) (.inr (2, [.ref (n + 3), .null, .null, .null])) := ⟨_, rfl⟩
  have k50 := mj_sN (y := .inr (2, [.ref (n + 3), .null, .null, .null])) (show ((n + 2) : Nat) ≠ a from (Nat.ne_of_lt (Nat.lt_of_lt_of_le han (Nat.le_add_right n 2))).symm) k42
  rw [← e_hh49] at k50
  have k51 := mj_sN (y := .inr (2, [.ref (n + 3), .null, .null, .null])) (show ((n + 2) : Nat) ≠ n from fun h9 => absurd (Nat.add_left_cancel (show n + 2 = n + 0 from h9)) (by decide)) k43
  rw [← e_hh49] at k51
  have k52 := mj_sN (y := .inr (2, [.ref (n + 3), .null, .null, .null])) (show ((n + 2) : Nat) ≠ (n + 1) from fun h9 => absurd (Nat.add_left_cancel (show n + 2 = n + 1 from h9)) (by decide)) k44
  rw [← e_hh49] at k52
  have k53 : hh49[(n + 2)]? = some (.inr (2, [.ref (n + 3), .null, .null, .null])) := by rw [e_hh49]; exact mj_sS k45
  have k54 := mj_sN (y := .inr (2, [.ref (n + 3), .null, .null, .null])) (show ((n + 2) : Nat) ≠ (n + 3) from fun h9 => absurd (Nat.add_left_cancel (show n + 2 = n + 3 from h9)) (by decide)) k46
  rw [← e_hh49] at k54
  have k55 := mj_sN (y := .inr (2, [.ref (n + 3), .null, .null, .null])) (show ((n + 2) : Nat) ≠ (n + 4) from fun h9 => absurd (Nat.add_left_cancel (show n + 2 = n + 4 from h9)) (by decide)) k47
  rw [← e_hh49] at k55
  have l56 : hh49.length = (n + 5) := by rw [e_hh49, List.length_set]; exact l48
  obtain ⟨hh57, e_hh57⟩ : ∃ q_ : mj_H, q_ = hh49 ++ ([.inr (1, [.null, .int 0, .int 0])] : mj_H) := ⟨_, rfl⟩
  have k58 := mj_al (t := [.inr (1, [.null, .int 0, .int 0])]) k50
  rw [← e_hh57] at k58
  have k59 := mj_al (t := [.inr (1, [.null, .int 0, .int 0])]) k51
  rw [← e_hh57] at k59
  have k60 := mj_al (t := [.inr (1, [.null, .int 0, .int 0])]) k52
  rw [← e_hh57] at k60
  have k61 := mj_al (t := [.inr (1, [.null, .int 0, .int 0])]) k53
  rw [← e_hh57] at k61
  have k62 := mj_al (t := [.inr (1, [.null, .int 0, .int 0])]) k54
  rw [← e_hh57] at k62
  have k63 := mj_al (t := [.inr (1, [.null, .int 0, .int 0])]) k55
  rw [← e_hh57] at k63
  have k64 := mj_ae (x := .inr (1, [.null, .int 0, .int 0])) l56
  rw [← e_hh57] at k64
  have l65 := mj_an (x := .inr (1, [.null, .int 0, .int 0])) l56
  rw [← e_hh57] at l65
  obtain ⟨hh66, e_hh66⟩ : ∃ q_ : mj_H, q_ = hh57 ++ ([.inl (400, .inl (fun _ => 0))] : mj_H) := ⟨_, rfl⟩
  have k67 := mj_al (t := [.inl (400, .inl (fun _ => 0))]) k58
  rw [← e_hh66] at k67
  have k68 := mj_al (t := [.inl (400, .inl (fun _ => 0))]) k59
  rw [← e_hh66] at k68
  have k69 := mj_al (t := [.inl (400, .inl (fun _ => 0))]) k60
  rw [← e_hh66] at k69
  have k70 := mj_al (t := [.inl (400, .inl (fun _ => 0))]) k61
  rw [← e_hh66] at k70
  have k71 := mj_al (t := [.inl (400, .inl (fun _ => 0))]) k62
  rw [← e_hh66] at k71
  have k72 := mj_al (t := [.inl (400, .inl (fun _ => 0))]) k63
  rw [← e_hh66] at k72
  have k73 := mj_al (t := [.inl (400, .inl (fun _ => 0))]) k64
  rw [← e_hh66] at k73
  have k74 := mj_ae (x := .inl (400, .inl (fun _ => 0))) l65
  rw [← e_hh66] at k74
  have l75 := mj_an (x := .inl (400, .inl (fun _ => 0))) l65
  rw [← e_hh66] at l75
  obtain ⟨hh76, e_hh76⟩ : ∃ q_ : mj_H, q_ = hh66.set (n + 5) (.inr (1, [.ref (n + 6), .int 0, .int 0])) := ⟨_, rfl⟩
  have k77 := mj_sN (y := .inr (1, [.ref (n + 6), .int 0, .int 0])) (show ((n + 5) : Nat) ≠ a from (Nat.ne_of_lt (Nat.lt_of_lt_of_le han (Nat.le_add_right n 5))).symm) k67
  rw [← e_hh76] at k77
  have k78 := mj_sN (y := .inr (1, [.ref (n + 6), .int 0, .int 0])) (show ((n + 5) : Nat) ≠ n from fun h9 => absurd (Nat.add_left_cancel (show n + 5 = n + 0 from h9)) (by decide)) k68
  rw [← e_hh76] at k78
  have k79 := mj_sN (y := .inr (1, [.ref (n + 6), .int 0, .int 0])) (show ((n + 5) : Nat) ≠ (n + 1) from fun h9 => absurd (Nat.add_left_cancel (show n + 5 = n + 1 from h9)) (by decide)) k69
  rw [← e_hh76] at k79
  have k80 := mj_sN (y := .inr (1, [.ref (n + 6), .int 0, .int 0])) (show ((n + 5) : Nat) ≠ (n + 2) from fun h9 => absurd (Nat.add_left_cancel (show n + 5 = n + 2 from h9)) (by decide)) k70
  rw [← e_hh76] at k80
  have k81 := mj_sN (y := .inr (1, [.ref (n + 6), .int 0, .int 0])) (show ((n + 5) : Nat) ≠ (n + 3) from fun h9 => absurd (Nat.add_left_cancel (show n + 5 = n + 3 from h9)) (by decide)) k71
  rw [← e_hh76] at k81
  have k82 := mj_sN (y := .inr (1, [.ref (n + 6), .int 0, .int 0])) (show ((n + 5) : Nat) ≠ (n + 4) from fun h9 => absurd (Nat.add_left_cancel (show n + 5 = n + 4 from h9)) (by decide)) k72
  rw [← e_hh76] at k82
  have k83 : hh76[(n + 5)]? = some (.inr (1, [.ref (n + 6), .int 0, .int 0])) := by rw [e_hh76]; exact mj_sS k73
  have k84 := mj_sN (y := .inr (1, [.ref (n + 6), .int 0, .int 0])) (show ((n + 5) : Nat) ≠ (n + 6) from fun h9 => absurd (Nat.add_left_cancel (show n + 5 = n + 6 from h9)) (by decide)) k74
  rw [← e_hh76] at k84
  have l85 : hh76.length = (n + 7) := by rw [e_hh76, List.length_set]; exact l75
  obtain ⟨hh86, e_hh86⟩ : ∃ q_ : mj_H, q_ = hh76.set (n + 2) (.inr (2, [.ref (n + 3), .ref (n + 5), .null, .null])) := ⟨_, rfl⟩
  have k87 := mj_sN (y := .inr (2, [.ref (n + 3), .ref (n + 5), .null, .null])) (show ((n + 2) : Nat) ≠ a from (Nat.ne_of_lt (Nat.lt_of_lt_of_le han (Nat.le_add_right n 2))).symm) k77
  rw [← e_hh86] at k87
  have k88 := mj_sN (y := .inr (2, [.ref (n + 3), .ref (n + 5), .null, .null])) (show ((n + 2) : Nat) ≠ n from fun h9 => absurd (Nat.add_left_cancel (show n + 2 = n + 0 from h9)) (by decide)) k78
  rw [← e_hh86] at k88
  have k89 := mj_sN (y := .inr (2, [.ref (n + 3), .ref (n + 5), .null, .null])) (show ((n + 2) : Nat) ≠ (n + 1) from fun h9 => absurd (Nat.add_left_cancel (show n + 2 = n + 1 from h9)) (by decide)) k79
  rw [← e_hh86] at k89
  have k90 : hh86[(n + 2)]? = some (.inr (2, [.ref (n + 3), .ref (n + 5), .null, .null])) := by rw [e_hh86]; exact mj_sS k80
  have k91 := mj_sN (y := .inr (2, [.ref (n + 3), .ref (n + 5), .null, .null])) (show ((n + 2) : Nat) ≠ (n + 3) from fun h9 => absurd (Nat.add_left_cancel (show n + 2 = n + 3 from h9)) (by decide)) k81
  rw [← e_hh86] at k91
  have k92 := mj_sN (y := .inr (2, [.ref (n + 3), .ref (n + 5), .null, .null])) (show ((n + 2) : Nat) ≠ (n + 4) from fun h9 => absurd (Nat.add_left_cancel (show n + 2 = n + 4 from h9)) (by decide)) k82
  rw [← e_hh86] at k92
  have k93 := mj_sN (y := .inr (2, [.ref (n + 3), .ref (n + 5), .null, .null])) (show ((n + 2) : Nat) ≠ (n + 5) from fun h9 => absurd (Nat.add_left_cancel (show n + 2 = n + 5 from h9)) (by decide)) k83
  rw [← e_hh86] at k93
  have k94 := mj_sN (y := .inr (2, [.ref (n + 3), .ref (n + 5), .null, .null])) (show ((n + 2) : Nat) ≠ (n + 6) from fun h9 => absurd (Nat.add_left_cancel (show n + 2 = n + 6 from h9)) (by decide)) k84
  rw [← e_hh86] at k94
  have l95 : hh86.length = (n + 7) := by rw [e_hh86, List.length_set]; exact l85
  obtain ⟨hh96, e_hh96⟩ : ∃ q_ : mj_H, q_ = hh86 ++ ([.inr (3, [.null])] : mj_H) := ⟨_, rfl⟩
  have k97 := mj_al (t := [.inr (3, [.null])]) k87
  rw [← e_hh96] at k97
  have k98 := mj_al (t := [.inr (3, [.null])]) k88
  rw [← e_hh96] at k98
  have k99 := mj_al (t := [.inr (3, [.null])]) k89
  rw [← e_hh96] at k99
  have k100 := mj_al (t := [.inr (3, [.null])]) k90
  rw [← e_hh96] at k100
  have k101 := mj_al (t := [.inr (3, [.null])]) k91
  rw [← e_hh96] at k101
  have k102 := mj_al (t := [.inr (3, [.null])]) k92
  rw [← e_hh96] at k102
  have k103 := mj_al (t := [.inr (3, [.null])]) k93
  rw [← e_hh96] at k103
  have k104 := mj_al (t := [.inr (3, [.null])]) k94
  rw [← e_hh96] at k104
  have k105 := mj_ae (x := .inr (3, [.null])) l95
  rw [← e_hh96] at k105
  have l106 := mj_an (x := .inr (3, [.null])) l95
  rw [← e_hh96] at l106
  obtain ⟨hh107, e_hh107⟩ : ∃ q_ : mj_H, q_ = hh96 ++ ([.inr (1, [.null, .int 0, .int 0])] : mj_H) := ⟨_, rfl⟩
  have k108 := mj_al (t := [.inr (1, [.null, .int 0, .int 0])]) k97
  rw [← e_hh107] at k108
  have k109 := mj_al (t := [.inr (1, [.null, .int 0, .int 0])]) k98
  rw [← e_hh107] at k109
  have k110 := mj_al (t := [.inr (1, [.null, .int 0, .int 0])]) k99
  rw [← e_hh107] at k110
  have k111 := mj_al (t := [.inr (1, [.null, .int 0, .int 0])]) k100
  rw [← e_hh107] at k111
  have k112 := mj_al (t := [.inr (1, [.null, .int 0, .int 0])]) k101
  rw [← e_hh107] at k112
  have k113 := mj_al (t := [.inr (1, [.null, .int 0, .int 0])]) k102
  rw [← e_hh107] at k113
  have k114 := mj_al (t := [.inr (1, [.null, .int 0, .int 0])]) k103
  rw [← e_hh107] at k114
  have k115 := mj_al (t := [.inr (1, [.null, .int 0, .int 0])]) k104
  rw [← e_hh107] at k115
  have k116 := mj_al (t := [.inr (1, [.null, .int 0, .int 0])]) k105
  rw [← e_hh107] at k116
  have k117 := mj_ae (x := .inr (1, [.null, .int 0, .int 0])) l106
  rw [← e_hh107] at k117
  have l118 := mj_an (x := .inr (1, [.null, .int 0, .int 0])) l106
  rw [← e_hh107] at l118
  obtain ⟨hh119, e_hh119⟩ : ∃ q_ : mj_H, q_ = hh107 ++ ([.inl (384, .inl (fun _ => 0))] : mj_H) := ⟨_, rfl⟩
  have k120 := mj_al (t := [.inl (384, .inl (fun _ => 0))]) k108
  rw [← e_hh119] at k120
  have k121 := mj_al (t := [.inl (384, .inl (fun _ => 0))]) k109
  rw [← e_hh119] at k121
  have k122 := mj_al (t := [.inl (384, .inl (fun _ => 0))]) k110
  rw [← e_hh119] at k122
  have k123 := mj_al (t := [.inl (384, .inl (fun _ => 0))]) k111
  rw [← e_hh119] at k123
  have k124 := mj_al (t := [.inl (384, .inl (fun _ => 0))]) k112
  rw [← e_hh119] at k124
  have k125 := mj_al (t := [.inl (384, .inl (fun _ => 0))]) k113
  rw [← e_hh119] at k125
  have k126 := mj_al (t := [.inl (384, .inl (fun _ => 0))]) k114
  rw [← e_hh119] at k126
  have k127 := mj_al (t := [.inl (384, .inl (fun _ => 0))]) k115
  rw [← e_hh119] at k127
  have k128 := mj_al (t := [.inl (384, .inl (fun _ => 0))]) k116
  rw [← e_hh119] at k128
  have k129 := mj_al (t := [.inl (384, .inl (fun _ => 0))]) k117
  rw [← e_hh119] at k129
  have k130 := mj_ae (x := .inl (384, .inl (fun _ => 0))) l118
  rw [← e_hh119] at k130
  have l131 := mj_an (x := .inl (384, .inl (fun _ => 0))) l118
  rw [← e_hh119] at l131
  obtain ⟨hh132, e_hh132⟩ : ∃ q_ : mj_H, q_ = hh119.set (n + 8) (.inr (1, [.ref (n + 9), .int 0, .int 0])) := ⟨_, rfl⟩
  have k133 := mj_sN (y := .inr (1, [.ref (n + 9), .int 0, .int 0])) (show ((n + 8) : Nat) ≠ a from (Nat.ne_of_lt (Nat.lt_of_lt_of_le han (Nat.le_add_right n 8))).symm) k120
  rw [← e_hh132] at k133
  have k134 := mj_sN (y := .inr (1, [.ref (n + 9), .int 0, .int 0])) (show ((n + 8) : Nat) ≠ n from fun h9 => absurd (Nat.add_left_cancel (show n + 8 = n + 0 from h9)) (by decide)) k121
  rw [← e_hh132] at k134
  have k135 := mj_sN (y := .inr (1, [.ref (n + 9), .int 0, .int 0])) (show ((n + 8) : Nat) ≠ (n + 1) from fun h9 => absurd (Nat.add_left_cancel (show n + 8 = n + 1 from h9)) (by decide)) k122
  rw [← e_hh132] at k135
  have k136 := mj_sN (y := .inr (1, [.ref (n + 9), .int 0, .int 0])) (show ((n + 8) : Nat) ≠ (n + 2) from fun h9 => absurd (Nat.add_left_cancel (show n + 8 = n + 2 from h9)) (by decide)) k123
  rw [← e_hh132] at k136
  have k137 := mj_sN (y := .inr (1, [.ref (n + 9), .int 0, .int 0])) (show ((n + 8) : Nat) ≠ (n + 3) from fun h9 => absurd (Nat.add_left_cancel (show n + 8 = n + 3 from h9)) (by decide)) k124
  rw [← e_hh132] at k137
  have k138 := mj_sN (y := .inr (1, [.ref (n + 9), .int 0, .int 0])) (show ((n + 8) : Nat) ≠ (n + 4) from fun h9 => absurd (Nat.add_left_cancel (show n + 8 = n + 4 from h9)) (by decide)) k125
  rw [← e_hh132] at k138
  have k139 := mj_sN (y := .inr (1, [.ref (n + 9), .int 0, .int 0])) (show ((n + 8) : Nat) ≠ (n + 5) from fun h9 => absurd (Nat.add_left_cancel (show n + 8 = n + 5 from h9)) (by decide)) k126
  rw [← e_hh132] at k139
  have k140 := mj_sN (y := .inr (1, [.ref (n + 9), .int 0, .int 0])) (show ((n + 8) : Nat) ≠ (n + 6) from fun h9 => absurd (Nat.add_left_cancel (show n + 8 = n + 6 from h9)) (by decide)) k127
  rw [← e_hh132] at k140
  have k141 := mj_sN (y := .inr (1, [.ref (n + 9), .int 0, .int 0])) (show ((n + 8) : Nat) ≠ (n + 7) from fun h9 => absurd (Nat.add_left_cancel (show n + 8 = n + 7 from h9)) (by decide)) k128
  rw [← e_hh132] at k141
  have k142 : hh132[(n + 8)]? = some (.inr (1, [.ref (n + 9), .int 0, .int 0])) := by rw [e_hh132]; exact mj_sS k129
  have k143 := mj_sN (y := .inr (1, [.ref (n + 9), .int 0, .int 0])) (show ((n + 8) : Nat) ≠ (n + 9) from fun h9 => absurd (Nat.add_left_cancel (show n + 8 = n + 9 from h9)) (by decide)) k130
  rw [← e_hh132] at k143
  have l144 : hh132.length = (n + 10) := by rw [e_hh132, List.length_set]; exact l131
  obtain ⟨hh145, e_hh145⟩ : ∃ q_ : mj_H, q_ = hh132.set (n + 7) (.inr (3, [.ref (n + 8)])) := ⟨_, rfl⟩
  have k146 := mj_sN (y := .inr (3, [.ref (n + 8)])) (show ((n + 7) : Nat) ≠ a from (Nat.ne_of_lt (Nat.lt_of_lt_of_le han (Nat.le_add_right n 7))).symm) k133
  rw [← e_hh145] at k146
  have k147 := mj_sN (y := .inr (3, [.ref (n + 8)])) (show ((n + 7) : Nat) ≠ n from fun h9 => absurd (Nat.add_left_cancel (show n + 7 = n + 0 from h9)) (by decide)) k134
  rw [← e_hh145] at k147
  have k148 := mj_sN (y := .inr (3, [.ref (n + 8)])) (show ((n + 7) : Nat) ≠ (n + 1) from fun h9 => absurd (Nat.add_left_cancel (show n + 7 = n + 1 from h9)) (by decide)) k135
  rw [← e_hh145] at k148
  have k149 := mj_sN (y := .inr (3, [.ref (n + 8)])) (show ((n + 7) : Nat) ≠ (n + 2) from fun h9 => absurd (Nat.add_left_cancel (show n + 7 = n + 2 from h9)) (by decide)) k136
  rw [← e_hh145] at k149
  have k150 := mj_sN (y := .inr (3, [.ref (n + 8)])) (show ((n + 7) : Nat) ≠ (n + 3) from fun h9 => absurd (Nat.add_left_cancel (show n + 7 = n + 3 from h9)) (by decide)) k137
  rw [← e_hh145] at k150
  have k151 := mj_sN (y := .inr (3, [.ref (n + 8)])) (show ((n + 7) : Nat) ≠ (n + 4) from fun h9 => absurd (Nat.add_left_cancel (show n + 7 = n + 4 from h9)) (by decide)) k138
  rw [← e_hh145] at k151
  have k152 := mj_sN (y := .inr (3, [.ref (n + 8)])) (show ((n + 7) : Nat) ≠ (n + 5) from fun h9 => absurd (Nat.add_left_cancel (show n + 7 = n + 5 from h9)) (by decide)) k139
  rw [← e_hh145] at k152
  have k153 := mj_sN (y := .inr (3, [.ref (n + 8)])) (show ((n + 7) : Nat) ≠ (n + 6) from fun h9 => absurd (Nat.add_left_cancel (show n + 7 = n + 6 from h9)) (by decide)) k140
  rw [← e_hh145] at k153
  have k154 : hh145[(n + 7)]? = some (.inr (3, [.ref (n + 8)])) := by rw [e_hh145]; exact mj_sS k141
  have k155 := mj_sN (y := .inr (3, [.ref (n + 8)])) (show ((n + 7) : Nat) ≠ (n + 8) from fun h9 => absurd (Nat.add_left_cancel (show n + 7 = n + 8 from h9)) (by decide)) k142
  rw [← e_hh145] at k155
  have k156 := mj_sN (y := .inr (3, [.ref (n + 8)])) (show ((n + 7) : Nat) ≠ (n + 9) from fun h9 => absurd (Nat.add_left_cancel (show n + 7 = n + 9 from h9)) (by decide)) k143
  rw [← e_hh145] at k156
  have l157 : hh145.length = (n + 10) := by rw [e_hh145, List.length_set]; exact l144
  obtain ⟨hh158, e_hh158⟩ : ∃ q_ : mj_H, q_ = hh145.set (n + 2) (.inr (2, [.ref (n + 3), .ref (n + 5), .ref (n + 7), .null])) := ⟨_, rfl⟩
  have k159 := mj_sN (y := .inr (2, [.ref (n + 3), .ref (n + 5), .ref (n + 7), .null])) (show ((n + 2) : Nat) ≠ a from (Nat.ne_of_lt (Nat.lt_of_lt_of_le han (Nat.le_add_right n 2))).symm) k146
  rw [← e_hh158] at k159
  have k160 := mj_sN (y := .inr (2, [.ref (n + 3), .ref (n + 5), .ref (n + 7), .null])) (show ((n + 2) : Nat) ≠ n from fun h9 => absurd (Nat.add_left_cancel (show n + 2 = n + 0 from h9)) (by decide)) k147
  rw [← e_hh158] at k160
  have k161 := mj_sN (y := .inr (2, [.ref (n + 3), .ref (n + 5), .ref (n + 7), .null])) (show ((n + 2) : Nat) ≠ (n + 1) from fun h9 => absurd (Nat.add_left_cancel (show n + 2 = n + 1 from h9)) (by decide)) k148
  rw [← e_hh158] at k161
  have k162 : hh158[(n + 2)]? = some (.inr (2, [.ref (n + 3), .ref (n + 5), .ref (n + 7), .null])) := by rw [e_hh158]; exact mj_sS k149
  have k163 := mj_sN (y := .inr (2, [.ref (n + 3), .ref (n + 5), .ref (n + 7), .null])) (show ((n + 2) : Nat) ≠ (n + 3) from fun h9 => absurd (Nat.add_left_cancel (show n + 2 = n + 3 from h9)) (by decide)) k150
  rw [← e_hh158] at k163
  have k164 := mj_sN (y := .inr (2, [.ref (n + 3), .ref (n + 5), .ref (n + 7), .null])) (show ((n + 2) : Nat) ≠ (n + 4) from fun h9 => absurd (Nat.add_left_cancel (show n + 2 = n + 4 from h9)) (by decide)) k151
  rw [← e_hh158] at k164
  have k165 := mj_sN (y := .inr (2, [.ref (n + 3), .ref (n + 5), .ref (n + 7), .null])) (show ((n + 2) : Nat) ≠ (n + 5) from fun h9 => absurd (Nat.add_left_cancel (show n + 2 = n + 5 from h9)) (by decide)) k152
  rw [← e_hh158] at k165
  have k166 := mj_sN (y := .inr (2, [.ref (n + 3), .ref (n + 5), .ref (n + 7), .null])) (show ((n + 2) : Nat) ≠ (n + 6) from fun h9 => absurd (Nat.add_left_cancel (show n + 2 = n + 6 from h9)) (by decide)) k153
  rw [← e_hh158] at k166
  have k167 := mj_sN (y := .inr (2, [.ref (n + 3), .ref (n + 5), .ref (n + 7), .null])) (show ((n + 2) : Nat) ≠ (n + 7) from fun h9 => absurd (Nat.add_left_cancel (show n + 2 = n + 7 from h9)) (by decide)) k154
  rw [← e_hh158] at k167
  have k168 := mj_sN (y := .inr (2, [.ref (n + 3), .ref (n + 5), .ref (n + 7), .null])) (show ((n + 2) : Nat) ≠ (n + 8) from fun h9 => absurd (Nat.add_left_cancel (show n + 2 = n + 8 from h9)) (by decide)) k155
  rw [← e_hh158] at k168
  have k169 := mj_sN (y := .inr (2, [.ref (n + 3), .ref (n + 5), .ref (n + 7), .null])) (show ((n + 2) : Nat) ≠ (n + 9) from fun h9 => absurd (Nat.add_left_cancel (show n + 2 = n + 9 from h9)) (by decide)) k156
  rw [← e_hh158] at k169
  have l170 : hh158.length = (n + 10) := by rw [e_hh158, List.length_set]; exact l157
  obtain ⟨hh171, e_hh171⟩ : ∃ q_ : mj_H, q_ = hh158 ++ ([.inr (6, [.null])] : mj_H) := ⟨_, rfl⟩
  have k172 := mj_al (t := [.inr (6, [.null])]) k159
  rw [← e_hh171] at k172
  have k173 := mj_al (t := [.inr (6, [.null])]) k160
  rw [← e_hh171] at k173
  have k174 := mj_al (t := [.inr (6, [.null])]) k161
  rw [← e_hh171] at k174
  have k175 := mj_al (t := [.inr (6, [.null])]) k162
  rw [← e_hh171] at k175
  have k176 := mj_al (t := [.inr (6, [.null])]) k163
  rw [← e_hh171] at k176
  have k177 := mj_al (t := [.inr (6, [.null])]) k164
  rw [← e_hh171] at k177
  have k178 := mj_al (t := [.inr (6, [.null])]) k165
  rw [← e_hh171] at k178
  have k179 := mj_al (t := [.inr (6, [.null])]) k166
  rw [← e_hh171] at k179
  have k180 := mj_al (t := [.inr (6, [.null])]) k167
  rw [← e_hh171] at k180
  have k181 := mj_al (t := [.inr (6, [.null])]) k168
  rw [← e_hh171] at k181
  have k182 := mj_al (t := [.inr (6, [.null])]) k169
  rw [← e_hh171] at k182
  have k183 := mj_ae (x := .inr (6, [.null])) l170
  rw [← e_hh171] at k183
  have l184 := mj_an (x := .inr (6, [.null])) l170
  rw [← e_hh171] at l184
  obtain ⟨hh185, e_hh185⟩ : ∃ q_ : mj_H, q_ = hh171 ++ ([.inl (32, .inl (fun _ => 0))] : mj_H) := ⟨_, rfl⟩
  have k186 := mj_al (t := [.inl (32, .inl (fun _ => 0))]) k172
  rw [← e_hh185] at k186
  have k187 := mj_al (t := [.inl (32, .inl (fun _ => 0))]) k173
  rw [← e_hh185] at k187
  have k188 := mj_al (t := [.inl (32, .inl (fun _ => 0))]) k174
  rw [← e_hh185] at k188
  have k189 := mj_al (t := [.inl (32, .inl (fun _ => 0))]) k175
  rw [← e_hh185] at k189
  have k190 := mj_al (t := [.inl (32, .inl (fun _ => 0))]) k176
  rw [← e_hh185] at k190
  have k191 := mj_al (t := [.inl (32, .inl (fun _ => 0))]) k177
  rw [← e_hh185] at k191
  have k192 := mj_al (t := [.inl (32, .inl (fun _ => 0))]) k178
  rw [← e_hh185] at k192
  have k193 := mj_al (t := [.inl (32, .inl (fun _ => 0))]) k179
  rw [← e_hh185] at k193
  have k194 := mj_al (t := [.inl (32, .inl (fun _ => 0))]) k180
  rw [← e_hh185] at k194
  have k195 := mj_al (t := [.inl (32, .inl (fun _ => 0))]) k181
  rw [← e_hh185] at k195
  have k196 := mj_al (t := [.inl (32, .inl (fun _ => 0))]) k182
  rw [← e_hh185] at k196
  have k197 := mj_al (t := [.inl (32, .inl (fun _ => 0))]) k183
  rw [← e_hh185] at k197
  have k198 := mj_ae (x := .inl (32, .inl (fun _ => 0))) l184
  rw [← e_hh185] at k198
  have l199 := mj_an (x := .inl (32, .inl (fun _ => 0))) l184
  rw [← e_hh185] at l199
  obtain ⟨hh200, e_hh200⟩ : ∃ q_ : mj_H, q_ = hh185.set (n + 10) (.inr (6, [.ref (n + 11)])) := ⟨_, rfl⟩
  have k201 := mj_sN (y := .inr (6, [.ref (n + 11)])) (show ((n + 10) : Nat) ≠ a from (Nat.ne_of_lt (Nat.lt_of_lt_of_le han (Nat.le_add_right n 10))).symm) k186
  rw [← e_hh200] at k201
  have k202 := mj_sN (y := .inr (6, [.ref (n + 11)])) (show ((n + 10) : Nat) ≠ n from fun h9 => absurd (Nat.add_left_cancel (show n + 10 = n + 0 from h9)) (by decide)) k187
  rw [← e_hh200] at k202
  have k203 := mj_sN (y := .inr (6, [.ref (n + 11)])) (show ((n + 10) : Nat) ≠ (n + 1) from fun h9 => absurd (Nat.add_left_cancel (show n + 10 = n + 1 from h9)) (by decide)) k188
  rw [← e_hh200] at k203
  have k204 := mj_sN (y := .inr (6, [.ref (n + 11)])) (show ((n + 10) : Nat) ≠ (n + 2) from fun h9 => absurd (Nat.add_left_cancel (show n + 10 = n + 2 from h9)) (by decide)) k189
  rw [← e_hh200] at k204
  have k205 := mj_sN (y := .inr (6, [.ref (n + 11)])) (show ((n + 10) : Nat) ≠ (n + 3) from fun h9 => absurd (Nat.add_left_cancel (show n + 10 = n + 3 from h9)) (by decide)) k190
  rw [← e_hh200] at k205
  have k206 := mj_sN (y := .inr (6, [.ref (n + 11)])) (show ((n + 10) : Nat) ≠ (n + 4) from fun h9 => absurd (Nat.add_left_cancel (show n + 10 = n + 4 from h9)) (by decide)) k191
  rw [← e_hh200] at k206
  have k207 := mj_sN (y := .inr (6, [.ref (n + 11)])) (show ((n + 10) : Nat) ≠ (n + 5) from fun h9 => absurd (Nat.add_left_cancel (show n + 10 = n + 5 from h9)) (by decide)) k192
  rw [← e_hh200] at k207
  have k208 := mj_sN (y := .inr (6, [.ref (n + 11)])) (show ((n + 10) : Nat) ≠ (n + 6) from fun h9 => absurd (Nat.add_left_cancel (show n + 10 = n + 6 from h9)) (by decide)) k193
  rw [← e_hh200] at k208
  have k209 := mj_sN (y := .inr (6, [.ref (n + 11)])) (show ((n + 10) : Nat) ≠ (n + 7) from fun h9 => absurd (Nat.add_left_cancel (show n + 10 = n + 7 from h9)) (by decide)) k194
  rw [← e_hh200] at k209
  have k210 := mj_sN (y := .inr (6, [.ref (n + 11)])) (show ((n + 10) : Nat) ≠ (n + 8) from fun h9 => absurd (Nat.add_left_cancel (show n + 10 = n + 8 from h9)) (by decide)) k195
  rw [← e_hh200] at k210
  have k211 := mj_sN (y := .inr (6, [.ref (n + 11)])) (show ((n + 10) : Nat) ≠ (n + 9) from fun h9 => absurd (Nat.add_left_cancel (show n + 10 = n + 9 from h9)) (by decide)) k196
  rw [← e_hh200] at k211
  have k212 : hh200[(n + 10)]? = some (.inr (6, [.ref (n + 11)])) := by rw [e_hh200]; exact mj_sS k197
  have k213 := mj_sN (y := .inr (6, [.ref (n + 11)])) (show ((n + 10) : Nat) ≠ (n + 11) from fun h9 => absurd (Nat.add_left_cancel (show n + 10 = n + 11 from h9)) (by decide)) k198
  rw [← e_hh200] at k213
  have l214 : hh200.length = (n + 12) := by rw [e_hh200, List.length_set]; exact l199
  obtain ⟨hh215, e_hh215⟩ : ∃ q_ : mj_H, q_ = hh200.set (n + 2) (.inr (2, [.ref (n + 3), .ref (n + 5), .ref (n + 7), .ref (n + 10)])) := ⟨_, rfl⟩
  have k216 := mj_sN (y := .inr (2, [.ref (n + 3), .ref (n + 5), .ref (n + 7), .ref (n + 10)])) (show ((n + 2) : Nat) ≠ a from (Nat.ne_of_lt (Nat.lt_of_lt_of_le han (Nat.le_add_right n 2))).symm) k201
  rw [← e_hh215] at k216
  have k217 := mj_sN (y := .inr (2, [.ref (n + 3), .ref (n + 5), .ref (n + 7), .ref (n + 10)])) (show ((n + 2) : Nat) ≠ n from fun h9 => absurd (Nat.add_left_cancel (show n + 2 = n + 0 from h9)) (by decide)) k202
  rw [← e_hh215] at k217
  have k218 := mj_sN (y := .inr (2, [.ref (n + 3), .ref (n + 5), .ref (n + 7), .ref (n + 10)])) (show ((n + 2) : Nat) ≠ (n + 1) from fun h9 => absurd (Nat.add_left_cancel (show n + 2 = n + 1 from h9)) (by decide)) k203
  rw [← e_hh215] at k218
  have k219 : hh215[(n + 2)]? = some (.inr (2, [.ref (n + 3), .ref (n + 5), .ref (n + 7), .ref (n + 10)])) := by rw [e_hh215]; exact mj_sS k204
  have k220 := mj_sN (y := .inr (2, [.ref (n + 3), .ref (n + 5), .ref (n + 7), .ref (n + 10)])) (show ((n + 2) : Nat) ≠ (n + 3) from fun h9 => absurd (Nat.add_left_cancel (show n + 2 = n + 3 from h9)) (by decide)) k205
  rw [← e_hh215] at k220
  have k221 := mj_sN (y := .inr (2, [.ref (n + 3), .ref (n + 5), .ref (n + 7), .ref (n + 10)])) (show ((n + 2) : Nat) ≠ (n + 4) from fun h9 => absurd (Nat.add_left_cancel (show n + 2 = n + 4 from h9)) (by decide)) k206
  rw [← e_hh215] at k221
  have k222 := mj_sN (y := .inr (2, [.ref (n + 3), .ref (n + 5), .ref (n + 7), .ref (n + 10)])) (show ((n + 2) : Nat) ≠ (n + 5) from fun h9 => absurd (Nat.add_left_cancel (show n + 2 = n + 5 from h9)) (by decide)) k207
  rw [← e_hh215] at k222
  have k223 := mj_sN (y := .inr (2, [.ref (n + 3), .ref (n + 5), .ref (n + 7), .ref (n + 10)])) (show ((n + 2) : Nat) ≠ (n + 6) from fun h9 => absurd (Nat.add_left_cancel (show n + 2 = n + 6 from h9)) (by decide)) k208
  rw [← e_hh215] at k223
  have k224 := mj_sN (y := .inr (2, [.ref (n + 3), .ref (n + 5), .ref (n + 7), .ref (n + 10)])) (show ((n + 2) : Nat) ≠ (n + 7) from fun h9 => absurd (Nat.add_left_cancel (show n + 2 = n + 7 from h9)) (by decide)) k209
  rw [← e_hh215] at k224
  have k225 := mj_sN (y := .inr (2, [.ref (n + 3), .ref (n + 5), .ref (n + 7), .ref (n + 10)])) (show ((n + 2) : Nat) ≠ (n + 8) from fun h9 => absurd (Nat.add_left_cancel (show n + 2 = n + 8 from h9)) (by decide)) k210
  rw [← e_hh215] at k225
  have k226 := mj_sN (y := .inr (2, [.ref (n + 3), .ref (n + 5), .ref (n + 7), .ref (n + 10)])) (show ((n + 2) : Nat) ≠ (n + 9) from fun h9 => absurd (Nat.add_left_cancel (show n + 2 = n + 9 from h9)) (by decide)) k211
  rw [← e_hh215] at k226
  have k227 := mj_sN (y := .inr (2, [.ref (n + 3), .ref (n + 5), .ref (n + 7), .ref (n + 10)])) (show ((n + 2) : Nat) ≠ (n + 10) from fun h9 => absurd (Nat.add_left_cancel (show n + 2 = n + 10 from h9)) (by decide)) k212
  rw [← e_hh215] at k227
  have k228 := mj_sN (y := .inr (2, [.ref (n + 3), .ref (n + 5), .ref (n + 7), .ref (n + 10)])) (show ((n + 2) : Nat) ≠ (n + 11) from fun h9 => absurd (Nat.add_left_cancel (show n + 2 = n + 11 from h9)) (by decide)) k213
  rw [← e_hh215] at k228
  have l229 : hh215.length = (n + 12) := by rw [e_hh215, List.length_set]; exact l214
  refine mj_hp (h1 := hh215) (by rw [e_hh215, e_hh200, e_hh185, e_hh171, e_hh158, e_hh145, e_hh132, e_hh119, e_hh107, e_hh96, e_hh86, e_hh76, e_hh66, e_hh57, e_hh49, e_hh41, e_hh33, e_hh26]) ?_
  refine mj_putF ok_RF (k := 1) (by decide) fl_RF_21 rfl rfl rfl (fun _ => rfl) (fun _ => rfl) (Nat.le_of_ble_eq_true rfl) d_RF_init_26 k216 ?_
  obtain ⟨hh230, e_hh230⟩ : ∃ q_ : mj_H, q_ = hh215.set a (.inr (0, [.ref n, .ref (n + 2), .null, .null, .null, .null, .int 0])) := ⟨_, rfl⟩
  refine mj_hp e_hh230 ?_
  have k231 : hh230[a]? = some (.inr (0, [.ref n, .ref (n + 2), .null, .null, .null, .null, .int 0])) := by rw [e_hh230]; exact mj_sS k216
  have k232 := mj_sN (y := .inr (0, [.ref n, .ref (n + 2), .null, .null, .null, .null, .int 0])) (show (a : Nat) ≠ n from Nat.ne_of_lt (Nat.lt_of_lt_of_le han (Nat.le_add_right n 0))) k217
  rw [← e_hh230] at k232
  have k233 := mj_sN (y := .inr (0, [.ref n, .ref (n + 2), .null, .null, .null, .null, .int 0])) (show (a : Nat) ≠ (n + 1) from Nat.ne_of_lt (Nat.lt_of_lt_of_le han (Nat.le_add_right n 1))) k218
  rw [← e_hh230] at k233
  have k234 := mj_sN (y := .inr (0, [.ref n, .ref (n + 2), .null, .null, .null, .null, .int 0])) (show (a : Nat) ≠ (n + 2) from Nat.ne_of_lt (Nat.lt_of_lt_of_le han (Nat.le_add_right n 2))) k219
  rw [← e_hh230] at k234
  have k235 := mj_sN (y := .inr (0, [.ref n, .ref (n + 2), .null, .null, .null, .null, .int 0])) (show (a : Nat) ≠ (n + 3) from Nat.ne_of_lt (Nat.lt_of_lt_of_le han (Nat.le_add_right n 3))) k220
  rw [← e_hh230] at k235
  have k236 := mj_sN (y := .inr (0, [.ref n, .ref (n + 2), .null, .null, .null, .null, .int 0])) (show (a : Nat) ≠ (n + 4) from Nat.ne_of_lt (Nat.lt_of_lt_of_le han (Nat.le_add_right n 4))) k221
  rw [← e_hh230] at k236
  have k237 := mj_sN (y := .inr (0, [.ref n, .ref (n + 2), .null, .null, .null, .null, .int 0])) (show (a : Nat) ≠ (n + 5) from Nat.ne_of_lt (Nat.lt_of_lt_of_le han (Nat.le_add_right n 5))) k222
  rw [← e_hh230] at k237
  have k238 := mj_sN (y := .inr (0, [.ref n, .ref (n + 2), .null, .null, .null, .null, .int 0])) (show (a : Nat) ≠ (n + 6) from Nat.ne_of_lt (Nat.lt_of_lt_of_le han (Nat.le_add_right n 6))) k223
  rw [← e_hh230] at k238
  have k239 := mj_sN (y := .inr (0, [.ref n, .ref (n + 2), .null, .null, .null, .null, .int 0])) (show (a : Nat) ≠ (n + 7) from Nat.ne_of_lt (Nat.lt_of_lt_of_le han (Nat.le_add_right n 7))) k224
  rw [← e_hh230] at k239
  have k240 := mj_sN (y := .inr (0, [.ref n, .ref (n + 2), .null, .null, .null, .null, .int 0])) (show (a : Nat) ≠ (n + 8) from Nat.ne_of_lt (Nat.lt_of_lt_of_le han (Nat.le_add_right n 8))) k225
  rw [← e_hh230] at k240
  have k241 := mj_sN (y := .inr (0, [.ref n, .ref (n + 2), .null, .null, .null, .null, .int 0])) (show (a : Nat) ≠ (n + 9) from Nat.ne_of_lt (Nat.lt_of_lt_of_le han (Nat.le_add_right n 9))) k226
  rw [← e_hh230] at k241
  have k242 := mj_sN (y := .inr (0, [.ref n, .ref (n + 2), .null, .null, .null, .null, .int 0])) (show (a : Nat) ≠ (n + 10) from Nat.ne_of_lt (Nat.lt_of_lt_of_le han (Nat.le_add_right n 10))) k227
  rw [← e_hh230] at k242
  have k243 := mj_sN (y := .inr (0, [.ref n, .ref (n + 2), .null, .null, .null, .null, .int 0])) (show (a : Nat) ≠ (n + 11) from Nat.ne_of_lt (Nat.lt_of_lt_of_le han (Nat.le_add_right n 11))) k228
  rw [← e_hh230] at k243
  have l244 : hh230.length = (n + 12) := by rw [e_hh230, List.length_set]; exact l229
  refine mj_aload_n d_RF_init_29 rfl ?_
  refine mj_new (kc := 13) (ks := 424) (fs := []) ok_Wr cl_RF_25 ia_Wr in_Wr d_RF_init_30 nf_Wr (fun _ => rfl) ?_
  refine mj_ra l244 ?_
  obtain ⟨hh245, e_hh245⟩ : ∃ q_ : mj_H, q_ = hh230 ++ [.inr (7, [])] := ⟨_, rfl⟩
  refine mj_hp e_hh245 ?_
  have k246 := mj_al (t := [.inr (7, [])]) k231
  rw [← e_hh245] at k246
  have k247 := mj_al (t := [.inr (7, [])]) k232
  rw [← e_hh245] at k247
  have k248 := mj_al (t := [.inr (7, [])]) k233
  rw [← e_hh245] at k248
  have k249 := mj_al (t := [.inr (7, [])]) k234
  rw [← e_hh245] at k249
  have k250 := mj_al (t := [.inr (7, [])]) k235
  rw [← e_hh245] at k250
  have k251 := mj_al (t := [.inr (7, [])]) k236
  rw [← e_hh245] at k251
  have k252 := mj_al (t := [.inr (7, [])]) k237
  rw [← e_hh245] at k252
  have k253 := mj_al (t := [.inr (7, [])]) k238
  rw [← e_hh245] at k253
  have k254 := mj_al (t := [.inr (7, [])]) k239
  rw [← e_hh245] at k254
  have k255 := mj_al (t := [.inr (7, [])]) k240
  rw [← e_hh245] at k255
  have k256 := mj_al (t := [.inr (7, [])]) k241
  rw [← e_hh245] at k256
  have k257 := mj_al (t := [.inr (7, [])]) k242
  rw [← e_hh245] at k257
  have k258 := mj_al (t := [.inr (7, [])]) k243
  rw [← e_hh245] at k258
  have k259 := mj_ae (x := .inr (7, [])) l244
  rw [← e_hh245] at k259
  have l260 := mj_an (x := .inr (7, [])) l244
  rw [← e_hh245] at l260
  refine mj_dup d_RF_init_33 rfl ?_
  refine mj_cIN (kc := 13) (ks := 424) (S := [.ref (n + 12), .ref a]) (S1 := [.ref (n + 12), .ref a]) (c_Wr_init k259 l260) rfl rfl d_RF_init_34 cw_Wr_init mn_RF_27 im_Wr_init (by decide) rfl (Nat.le_of_ble_eq_true rfl) rfl rfl ?_
  refine mj_putF ok_RF (k := 2) (by decide) fl_RF_28 rfl rfl rfl (fun _ => rfl) (fun _ => rfl) (Nat.le_of_ble_eq_true rfl) d_RF_init_37 k246 ?_
  obtain ⟨hh261, e_hh261⟩ : ∃ q_ : mj_H, q_ = hh245.set a (.inr (0, [.ref n, .ref (n + 2), .ref (n + 12), .null, .null, .null, .int 0])) := ⟨_, rfl⟩
  refine mj_hp e_hh261 ?_
  have k262 : hh261[a]? = some (.inr (0, [.ref n, .ref (n + 2), .ref (n + 12), .null, .null, .null, .int 0])) := by rw [e_hh261]; exact mj_sS k246
  have k263 := mj_sN (y := .inr (0, [.ref n, .ref (n + 2), .ref (n + 12), .null, .null, .null, .int 0])) (show (a : Nat) ≠ n from Nat.ne_of_lt (Nat.lt_of_lt_of_le han (Nat.le_add_right n 0))) k247
  rw [← e_hh261] at k263
  have k264 := mj_sN (y := .inr (0, [.ref n, .ref (n + 2), .ref (n + 12), .null, .null, .null, .int 0])) (show (a : Nat) ≠ (n + 1) from Nat.ne_of_lt (Nat.lt_of_lt_of_le han (Nat.le_add_right n 1))) k248
  rw [← e_hh261] at k264
  have k265 := mj_sN (y := .inr (0, [.ref n, .ref (n + 2), .ref (n + 12), .null, .null, .null, .int 0])) (show (a : Nat) ≠ (n + 2) from Nat.ne_of_lt (Nat.lt_of_lt_of_le han (Nat.le_add_right n 2))) k249
  rw [← e_hh261] at k265
  have k266 := mj_sN (y := .inr (0, [.ref n, .ref (n + 2), .ref (n + 12), .null, .null, .null, .int 0])) (show (a : Nat) ≠ (n + 3) from Nat.ne_of_lt (Nat.lt_of_lt_of_le han (Nat.le_add_right n 3))) k250
  rw [← e_hh261] at k266
  have k267 := mj_sN (y := .inr (0, [.ref n, .ref (n + 2), .ref (n + 12), .null, .null, .null, .int 0])) (show (a : Nat) ≠ (n + 4) from Nat.ne_of_lt (Nat.lt_of_lt_of_le han (Nat.le_add_right n 4))) k251
  rw [← e_hh261] at k267
  have k268 := mj_sN (y := .inr (0, [.ref n, .ref (n + 2), .ref (n + 12), .null, .null, .null, .int 0])) (show (a : Nat) ≠ (n + 5) from Nat.ne_of_lt (Nat.lt_of_lt_of_le han (Nat.le_add_right n 5))) k252
  rw [← e_hh261] at k268
  have k269 := mj_sN (y := .inr (0, [.ref n, .ref (n + 2), .ref (n + 12), .null, .null, .null, .int 0])) (show (a : Nat) ≠ (n + 6) from Nat.ne_of_lt (Nat.lt_of_lt_of_le han (Nat.le_add_right n 6))) k253
  rw [← e_hh261] at k269
  have k270 := mj_sN (y := .inr (0, [.ref n, .ref (n + 2), .ref (n + 12), .null, .null, .null, .int 0])) (show (a : Nat) ≠ (n + 7) from Nat.ne_of_lt (Nat.lt_of_lt_of_le han (Nat.le_add_right n 7))) k254
  rw [← e_hh261] at k270
  have k271 := mj_sN (y := .inr (0, [.ref n, .ref (n + 2), .ref (n + 12), .null, .null, .null, .int 0])) (show (a : Nat) ≠ (n + 8) from Nat.ne_of_lt (Nat.lt_of_lt_of_le han (Nat.le_add_right n 8))) k255
  rw [← e_hh261] at k271
  have k272 := mj_sN (y := .inr (0, [.ref n, .ref (n + 2), .ref (n + 12), .null, .null, .null, .int 0])) (show (a : Nat) ≠ (n + 9) from Nat.ne_of_lt (Nat.lt_of_lt_of_le han (Nat.le_add_right n 9))) k256
  rw [← e_hh261] at k272
  have k273 := mj_sN (y := .inr (0, [.ref n, .ref (n + 2), .ref (n + 12), .null, .null, .null, .int 0])) (show (a : Nat) ≠ (n + 10) from Nat.ne_of_lt (Nat.lt_of_lt_of_le han (Nat.le_add_right n 10))) k257
  rw [← e_hh261] at k273
  have k274 := mj_sN (y := .inr (0, [.ref n, .ref (n + 2), .ref (n + 12), .null, .null, .null, .int 0])) (show (a : Nat) ≠ (n + 11) from Nat.ne_of_lt (Nat.lt_of_lt_of_le han (Nat.le_add_right n 11))) k258
  rw [← e_hh261] at k274
  have k275 := mj_sN (y := .inr (0, [.ref n, .ref (n + 2), .ref (n + 12), .null, .null, .null, .int 0])) (show (a : Nat) ≠ (n + 12) from Nat.ne_of_lt (Nat.lt_of_lt_of_le han (Nat.le_add_right n 12))) k259
  rw [← e_hh261] at k275
  have l276 : hh261.length = (n + 13) := by rw [e_hh261, List.length_set]; exact l260
  refine mj_aload_n d_RF_init_40 rfl ?_
  refine mj_new (kc := 12) (ks := 419) (fs := [.int 0, .int 0, .int 0, .null, .int 0]) ok_Re cl_RF_32 ia_Re in_Re d_RF_init_41 nf_Re (fun _ => rfl) ?_
  refine mj_ra l276 ?_
  obtain ⟨hh277, e_hh277⟩ : ∃ q_ : mj_H, q_ = hh261 ++ [.inr (5, [.int 0, .int 0, .int 0, .null, .int 0])] := ⟨_, rfl⟩
  refine mj_hp e_hh277 ?_
  have k278 := mj_al (t := [.inr (5, [.int 0, .int 0, .int 0, .null, .int 0])]) k262
  rw [← e_hh277] at k278
  have k279 := mj_al (t := [.inr (5, [.int 0, .int 0, .int 0, .null, .int 0])]) k263
  rw [← e_hh277] at k279
  have k280 := mj_al (t := [.inr (5, [.int 0, .int 0, .int 0, .null, .int 0])]) k264
  rw [← e_hh277] at k280
  have k281 := mj_al (t := [.inr (5, [.int 0, .int 0, .int 0, .null, .int 0])]) k265
  rw [← e_hh277] at k281
  have k282 := mj_al (t := [.inr (5, [.int 0, .int 0, .int 0, .null, .int 0])]) k266
  rw [← e_hh277] at k282
  have k283 := mj_al (t := [.inr (5, [.int 0, .int 0, .int 0, .null, .int 0])]) k267
  rw [← e_hh277] at k283
  have k284 := mj_al (t := [.inr (5, [.int 0, .int 0, .int 0, .null, .int 0])]) k268
  rw [← e_hh277] at k284
  have k285 := mj_al (t := [.inr (5, [.int 0, .int 0, .int 0, .null, .int 0])]) k269
  rw [← e_hh277] at k285
  have k286 := mj_al (t := [.inr (5, [.int 0, .int 0, .int 0, .null, .int 0])]) k270
  rw [← e_hh277] at k286
  have k287 := mj_al (t := [.inr (5, [.int 0, .int 0, .int 0, .null, .int 0])]) k271
  rw [← e_hh277] at k287
  have k288 := mj_al (t := [.inr (5, [.int 0, .int 0, .int 0, .null, .int 0])]) k272
  rw [← e_hh277] at k288
  have k289 := mj_al (t := [.inr (5, [.int 0, .int 0, .int 0, .null, .int 0])]) k273
  rw [← e_hh277] at k289
  have k290 := mj_al (t := [.inr (5, [.int 0, .int 0, .int 0, .null, .int 0])]) k274
  rw [← e_hh277] at k290
  have k291 := mj_al (t := [.inr (5, [.int 0, .int 0, .int 0, .null, .int 0])]) k275
  rw [← e_hh277] at k291
  have k292 := mj_ae (x := .inr (5, [.int 0, .int 0, .int 0, .null, .int 0])) l276
  rw [← e_hh277] at k292
  have l293 := mj_an (x := .inr (5, [.int 0, .int 0, .int 0, .null, .int 0])) l276
  rw [← e_hh277] at l293
  refine mj_dup d_RF_init_44 rfl ?_
  refine mj_cIN (kc := 10) (ks := 416) (S := [.ref (n + 13), .ref a]) (S1 := [.ref (n + 13), .ref a]) (c_Re_init k292 l293) rfl rfl d_RF_init_45 cw_Re_init mn_RF_34 im_Re_init (by decide) rfl (Nat.le_of_ble_eq_true rfl) rfl rfl ?_
  obtain ⟨hh294, e_hh294⟩ : ∃ q_ : mj_H, q_ = hh277.set (n + 13) (.inr (5, [.int (-2), .int 0, .int 0, .null, .int 0])) := ⟨_, rfl⟩
  have k295 := mj_sN (y := .inr (5, [.int (-2), .int 0, .int 0, .null, .int 0])) (show ((n + 13) : Nat) ≠ a from (Nat.ne_of_lt (Nat.lt_of_lt_of_le han (Nat.le_add_right n 13))).symm) k278
  rw [← e_hh294] at k295
  have k296 := mj_sN (y := .inr (5, [.int (-2), .int 0, .int 0, .null, .int 0])) (show ((n + 13) : Nat) ≠ n from fun h9 => absurd (Nat.add_left_cancel (show n + 13 = n + 0 from h9)) (by decide)) k279
  rw [← e_hh294] at k296
  have k297 := mj_sN (y := .inr (5, [.int (-2), .int 0, .int 0, .null, .int 0])) (show ((n + 13) : Nat) ≠ (n + 1) from fun h9 => absurd (Nat.add_left_cancel (show n + 13 = n + 1 from h9)) (by decide)) k280
  rw [← e_hh294] at k297
  have k298 := mj_sN (y := .inr (5, [.int (-2), .int 0, .int 0, .null, .int 0])) (show ((n + 13) : Nat) ≠ (n + 2) from fun h9 => absurd (Nat.add_left_cancel (show n + 13 = n + 2 from h9)) (by decide)) k281
  rw [← e_hh294] at k298
  have k299 := mj_sN (y := .inr (5, [.int (-2), .int 0, .int 0, .null, .int 0])) (show ((n + 13) : Nat) ≠ (n + 3) from fun h9 => absurd (Nat.add_left_cancel (show n + 13 = n + 3 from h9)) (by decide)) k282
  rw [← e_hh294] at k299
  have k300 := mj_sN (y := .inr (5, [.int (-2), .int 0, .int 0, .null, .int 0])) (show ((n + 13) : Nat) ≠ (n + 4) from fun h9 => absurd (Nat.add_left_cancel (show n + 13 = n + 4 from h9)) (by decide)) k283
  rw [← e_hh294] at k300
  have k301 := mj_sN (y := .inr (5, [.int (-2), .int 0, .int 0, .null, .int 0])) (show ((n + 13) : Nat) ≠ (n + 5) from fun h9 => absurd (Nat.add_left_cancel (show n + 13 = n + 5 from h9)) (by decide)) k284
  rw [← e_hh294] at k301
  have k302 := mj_sN (y := .inr (5, [.int (-2), .int 0, .int 0, .null, .int 0])) (show ((n + 13) : Nat) ≠ (n + 6) from fun h9 => absurd (Nat.add_left_cancel (show n + 13 = n + 6 from h9)) (by decide)) k285
  rw [← e_hh294] at k302
  have k303 := mj_sN (y := .inr (5, [.int (-2), .int 0, .int 0, .null, .int 0])) (show ((n + 13) : Nat) ≠ (n + 7) from fun h9 => absurd (Nat.add_left_cancel (show n + 13 = n + 7 from h9)) (by decide)) k286
  rw [← e_hh294] at k303
  have k304 := mj_sN (y := .inr (5, [.int (-2), .int 0, .int 0, .null, .int 0])) (show ((n + 13) : Nat) ≠ (n + 8) from fun h9 => absurd (Nat.add_left_cancel (show n + 13 = n + 8 from h9)) (by decide)) k287
  rw [← e_hh294] at k304
  have k305 := mj_sN (y := .inr (5, [.int (-2), .int 0, .int 0, .null, .int 0])) (show ((n + 13) : Nat) ≠ (n + 9) from fun h9 => absurd (Nat.add_left_cancel (show n + 13 = n + 9 from h9)) (by decide)) k288
  rw [← e_hh294] at k305
  have k306 := mj_sN (y := .inr (5, [.int (-2), .int 0, .int 0, .null, .int 0])) (show ((n + 13) : Nat) ≠ (n + 10) from fun h9 => absurd (Nat.add_left_cancel (show n + 13 = n + 10 from h9)) (by decide)) k289
  rw [← e_hh294] at k306
  have k307 := mj_sN (y := .inr (5, [.int (-2), .int 0, .int 0, .null, .int 0])) (show ((n + 13) : Nat) ≠ (n + 11) from fun h9 => absurd (Nat.add_left_cancel (show n + 13 = n + 11 from h9)) (by decide)) k290
  rw [← e_hh294] at k307
  have k308 := mj_sN (y := .inr (5, [.int (-2), .int 0, .int 0, .null, .int 0])) (show ((n + 13) : Nat) ≠ (n + 12) from fun h9 => absurd (Nat.add_left_cancel (show n + 13 = n + 12 from h9)) (by decide)) k291
  rw [← e_hh294] at k308
  have k309 : hh294[(n + 13)]? = some (.inr (5, [.int (-2), .int 0, .int 0, .null, .int 0])) := by rw [e_hh294]; exact mj_sS k292
  have l310 : hh294.length = (n + 14) := by rw [e_hh294, List.length_set]; exact l293
  obtain ⟨hh311, e_hh311⟩ : ∃ q_ : mj_H, q_ = hh294 ++ ([.inr (1, [.null, .int 0, .int 0])] : mj_H) := ⟨_, rfl⟩
  have k312 := mj_al (t := [.inr (1, [.null, .int 0, .int 0])]) k295
  rw [← e_hh311] at k312
  have k313 := mj_al (t := [.inr (1, [.null, .int 0, .int 0])]) k296
  rw [← e_hh311] at k313
  have k314 := mj_al (t := [.inr (1, [.null, .int 0, .int 0])]) k297
  rw [← e_hh311] at k314
  have k315 := mj_al (t := [.inr (1, [.null, .int 0, .int 0])]) k298
  rw [← e_hh311] at k315
  have k316 := mj_al (t := [.inr (1, [.null, .int 0, .int 0])]) k299
  rw [← e_hh311] at k316
  have k317 := mj_al (t := [.inr (1, [.null, .int 0, .int 0])]) k300
  rw [← e_hh311] at k317
  have k318 := mj_al (t := [.inr (1, [.null, .int 0, .int 0])]) k301
  rw [← e_hh311] at k318
  have k319 := mj_al (t := [.inr (1, [.null, .int 0, .int 0])]) k302
  rw [← e_hh311] at k319
  have k320 := mj_al (t := [.inr (1, [.null, .int 0, .int 0])]) k303
  rw [← e_hh311] at k320
  have k321 := mj_al (t := [.inr (1, [.null, .int 0, .int 0])]) k304
  rw [← e_hh311] at k321
  have k322 := mj_al (t := [.inr (1, [.null, .int 0, .int 0])]) k305
  rw [← e_hh311] at k322
  have k323 := mj_al (t := [.inr (1, [.null, .int 0, .int 0])]) k306
  rw [← e_hh311] at k323
  have k324 := mj_al (t := [.inr (1, [.null, .int 0, .int 0])]) k307
  rw [← e_hh311] at k324
  have k325 := mj_al (t := [.inr (1, [.null, .int 0, .int 0])]) k308
  rw [← e_hh311] at k325
  have k326 := mj_al (t := [.inr (1, [.null, .int 0, .int 0])]) k309
  rw [← e_hh311] at k326
  have k327 := mj_ae (x := .inr (1, [.null, .int 0, .int 0])) l310
  rw [← e_hh311] at k327
  have l328 := mj_an (x := .inr (1, [.null, .int 0, .int 0])) l310
  rw [← e_hh311] at l328
  obtain ⟨hh329, e_hh329⟩ : ∃ q_ : mj_H, q_ = hh311 ++ ([.inl (0, .inl (fun _ => 0))] : mj_H) := ⟨_, rfl⟩
  have k330 := mj_al (t := [.inl (0, .inl (fun _ => 0))]) k312
  rw [← e_hh329] at k330
  have k331 := mj_al (t := [.inl (0, .inl (fun _ => 0))]) k313
  rw [← e_hh329] at k331
  have k332 := mj_al (t := [.inl (0, .inl (fun _ => 0))]) k314
  rw [← e_hh329] at k332
  have k333 := mj_al (t := [.inl (0, .inl (fun _ => 0))]) k315
  rw [← e_hh329] at k333
  have k334 := mj_al (t := [.inl (0, .inl (fun _ => 0))]) k316
  rw [← e_hh329] at k334
  have k335 := mj_al (t := [.inl (0, .inl (fun _ => 0))]) k317
  rw [← e_hh329] at k335
  have k336 := mj_al (t := [.inl (0, .inl (fun _ => 0))]) k318
  rw [← e_hh329] at k336
  have k337 := mj_al (t := [.inl (0, .inl (fun _ => 0))]) k319
  rw [← e_hh329] at k337
  have k338 := mj_al (t := [.inl (0, .inl (fun _ => 0))]) k320
  rw [← e_hh329] at k338
  have k339 := mj_al (t := [.inl (0, .inl (fun _ => 0))]) k321
  rw [← e_hh329] at k339
  have k340 := mj_al (t := [.inl (0, .inl (fun _ => 0))]) k322
  rw [← e_hh329] at k340
  have k341 := mj_al (t := [.inl (0, .inl (fun _ => 0))]) k323
  rw [← e_hh329] at k341
  have k342 := mj_al (t := [.inl (0, .inl (fun _ => 0))]) k324
  rw [← e_hh329] at k342
  have k343 := mj_al (t := [.inl (0, .inl (fun _ => 0))]) k325
  rw [← e_hh329] at k343
  have k344 := mj_al (t := [.inl (0, .inl (fun _ => 0))]) k326
  rw [← e_hh329] at k344
  have k345 := mj_al (t := [.inl (0, .inl (fun _ => 0))]) k327
  rw [← e_hh329] at k345
  have k346 := mj_ae (x := .inl (0, .inl (fun _ => 0))) l328
  rw [← e_hh329] at k346
  have l347 := mj_an (x := .inl (0, .inl (fun _ => 0))) l328
  rw [← e_hh329] at l347
  obtain ⟨hh348, e_hh348⟩ : ∃ q_ : mj_H, q_ = hh329.set (n + 14) (.inr (1, [.ref (n + 15), .int 0, .int 0])) := ⟨_, rfl⟩
  have k349 := mj_sN (y := .inr (1, [.ref (n + 15), .int 0, .int 0])) (show ((n + 14) : Nat) ≠ a from (Nat.ne_of_lt (Nat.lt_of_lt_of_le han (Nat.le_add_right n 14))).symm) k330
  rw [← e_hh348] at k349
  have k350 := mj_sN (y := .inr (1, [.ref (n + 15), .int 0, .int 0])) (show ((n + 14) : Nat) ≠ n from fun h9 => absurd (Nat.add_left_cancel (show n + 14 = n + 0 from h9)) (by decide)) k331
  rw [← e_hh348] at k350
  have k351 := mj_sN (y := .inr (1, [.ref (n + 15), .int 0, .int 0])) (show ((n + 14) : Nat) ≠ (n + 1) from fun h9 => absurd (Nat.add_left_cancel (show n + 14 = n + 1 from h9)) (by decide)) k332
  rw [← e_hh348] at k351
  have k352 := mj_sN (y := .inr (1, [.ref (n + 15), .int 0, .int 0])) (show ((n + 14) : Nat) ≠ (n + 2) from fun h9 => absurd (Nat.add_left_cancel (show n + 14 = n + 2 from h9)) (by decide)) k333
  rw [← e_hh348] at k352
  have k353 := mj_sN (y := .inr (1, [.ref (n + 15), .int 0, .int 0])) (show ((n + 14) : Nat) ≠ (n + 3) from fun h9 => absurd (Nat.add_left_cancel (show n + 14 = n + 3 from h9)) (by decide)) k334
  rw [← e_hh348] at k353
  have k354 := mj_sN (y := .inr (1, [.ref (n + 15), .int 0, .int 0])) (show ((n + 14) : Nat) ≠ (n + 4) from fun h9 => absurd (Nat.add_left_cancel (show n + 14 = n + 4 from h9)) (by decide)) k335
  rw [← e_hh348] at k354
  have k355 := mj_sN (y := .inr (1, [.ref (n + 15), .int 0, .int 0])) (show ((n + 14) : Nat) ≠ (n + 5) from fun h9 => absurd (Nat.add_left_cancel (show n + 14 = n + 5 from h9)) (by decide)) k336
  rw [← e_hh348] at k355
  have k356 := mj_sN (y := .inr (1, [.ref (n + 15), .int 0, .int 0])) (show ((n + 14) : Nat) ≠ (n + 6) from fun h9 => absurd (Nat.add_left_cancel (show n + 14 = n + 6 from h9)) (by decide)) k337
  rw [← e_hh348] at k356
  have k357 := mj_sN (y := .inr (1, [.ref (n + 15), .int 0, .int 0])) (show ((n + 14) : Nat) ≠ (n + 7) from fun h9 => absurd (Nat.add_left_cancel (show n + 14 = n + 7 from h9)) (by decide)) k338
  rw [← e_hh348] at k357
  have k358 := mj_sN (y := .inr (1, [.ref (n + 15), .int 0, .int 0])) (show ((n + 14) : Nat) ≠ (n + 8) from fun h9 => absurd (Nat.add_left_cancel (show n + 14 = n + 8 from h9)) (by decide)) k339
  rw [← e_hh348] at k358
  have k359 := mj_sN (y := .inr (1, [.ref (n + 15), .int 0, .int 0])) (show ((n + 14) : Nat) ≠ (n + 9) from fun h9 => absurd (Nat.add_left_cancel (show n + 14 = n + 9 from h9)) (by decide)) k340
  rw [← e_hh348] at k359
  have k360 := mj_sN (y := .inr (1, [.ref (n + 15), .int 0, .int 0])) (show ((n + 14) : Nat) ≠ (n + 10) from fun h9 => absurd (Nat.add_left_cancel (show n + 14 = n + 10 from h9)) (by decide)) k341
  rw [← e_hh348] at k360
  have k361 := mj_sN (y := .inr (1, [.ref (n + 15), .int 0, .int 0])) (show ((n + 14) : Nat) ≠ (n + 11) from fun h9 => absurd (Nat.add_left_cancel (show n + 14 = n + 11 from h9)) (by decide)) k342
  rw [← e_hh348] at k361
  have k362 := mj_sN (y := .inr (1, [.ref (n + 15), .int 0, .int 0])) (show ((n + 14) : Nat) ≠ (n + 12) from fun h9 => absurd (Nat.add_left_cancel (show n + 14 = n + 12 from h9)) (by decide)) k343
  rw [← e_hh348] at k362
  have k363 := mj_sN (y := .inr (1, [.ref (n + 15), .int 0, .int 0])) (show ((n + 14) : Nat) ≠ (n + 13) from fun h9 => absurd (Nat.add_left_cancel (show n + 14 = n + 13 from h9)) (by decide)) k344
  rw [← e_hh348] at k363
  have k364 : hh348[(n + 14)]? = some (.inr (1, [.ref (n + 15), .int 0, .int 0])) := by rw [e_hh348]; exact mj_sS k345
  have k365 := mj_sN (y := .inr (1, [.ref (n + 15), .int 0, .int 0])) (show ((n + 14) : Nat) ≠ (n + 15) from fun h9 => absurd (Nat.add_left_cancel (show n + 14 = n + 15 from h9)) (by decide)) k346
  rw [← e_hh348] at k365
  have l366 : hh348.length = (n + 16) := by rw [e_hh348, List.length_set]; exact l347
  obtain ⟨hh367, e_hh367⟩ : ∃ q_ : mj_H, q_ = hh348.set (n + 13) (.inr (5, [.int (-2), .int 0, .int 0, .ref (n + 14), .int 0])) := ⟨_, rfl⟩
  have k368 := mj_sN (y := .inr (5, [.int (-2), .int 0, .int 0, .ref (n + 14), .int 0])) (show ((n + 13) : Nat) ≠ a from (Nat.ne_of_lt (Nat.lt_of_lt_of_le han (Nat.le_add_right n 13))).symm) k349
  rw [← e_hh367] at k368
  have k369 := mj_sN (y := .inr (5, [.int (-2), .int 0, .int 0, .ref (n + 14), .int 0])) (show ((n + 13) : Nat) ≠ n from fun h9 => absurd (Nat.add_left_cancel (show n + 13 = n + 0 from h9)) (by decide)) k350
  rw [← e_hh367] at k369
  have k370 := mj_sN (y := .inr (5, [.int (-2), .int 0, .int 0, .ref (n + 14), .int 0])) (show ((n + 13) : Nat) ≠ (n + 1) from fun h9 => absurd (Nat.add_left_cancel (show n + 13 = n + 1 from h9)) (by decide)) k351
  rw [← e_hh367] at k370
  have k371 := mj_sN (y := .inr (5, [.int (-2), .int 0, .int 0, .ref (n + 14), .int 0])) (show ((n + 13) : Nat) ≠ (n + 2) from fun h9 => absurd (Nat.add_left_cancel (show n + 13 = n + 2 from h9)) (by decide)) k352
  rw [← e_hh367] at k371
  have k372 := mj_sN (y := .inr (5, [.int (-2), .int 0, .int 0, .ref (n + 14), .int 0])) (show ((n + 13) : Nat) ≠ (n + 3) from fun h9 => absurd (Nat.add_left_cancel (show n + 13 = n + 3 from h9)) (by decide)) k353
  rw [← e_hh367] at k372
  have k373 := mj_sN (y := .inr (5, [.int (-2), .int 0, .int 0, .ref (n + 14), .int 0])) (show ((n + 13) : Nat) ≠ (n + 4) from fun h9 => absurd (Nat.add_left_cancel (show n + 13 = n + 4 from h9)) (by decide)) k354
  rw [← e_hh367] at k373
  have k374 := mj_sN (y := .inr (5, [.int (-2), .int 0, .int 0, .ref (n + 14), .int 0])) (show ((n + 13) : Nat) ≠ (n + 5) from fun h9 => absurd (Nat.add_left_cancel (show n + 13 = n + 5 from h9)) (by decide)) k355
  rw [← e_hh367] at k374
  have k375 := mj_sN (y := .inr (5, [.int (-2), .int 0, .int 0, .ref (n + 14), .int 0])) (show ((n + 13) : Nat) ≠ (n + 6) from fun h9 => absurd (Nat.add_left_cancel (show n + 13 = n + 6 from h9)) (by decide)) k356
  rw [← e_hh367] at k375
  have k376 := mj_sN (y := .inr (5, [.int (-2), .int 0, .int 0, .ref (n + 14), .int 0])) (show ((n + 13) : Nat) ≠ (n + 7) from fun h9 => absurd (Nat.add_left_cancel (show n + 13 = n + 7 from h9)) (by decide)) k357
  rw [← e_hh367] at k376
  have k377 := mj_sN (y := .inr (5, [.int (-2), .int 0, .int 0, .ref (n + 14), .int 0])) (show ((n + 13) : Nat) ≠ (n + 8) from fun h9 => absurd (Nat.add_left_cancel (show n + 13 = n + 8 from h9)) (by decide)) k358
  rw [← e_hh367] at k377
  have k378 := mj_sN (y := .inr (5, [.int (-2), .int 0, .int 0, .ref (n + 14), .int 0])) (show ((n + 13) : Nat) ≠ (n + 9) from fun h9 => absurd (Nat.add_left_cancel (show n + 13 = n + 9 from h9)) (by decide)) k359
  rw [← e_hh367] at k378
  have k379 := mj_sN (y := .inr (5, [.int (-2), .int 0, .int 0, .ref (n + 14), .int 0])) (show ((n + 13) : Nat) ≠ (n + 10) from fun h9 => absurd (Nat.add_left_cancel (show n + 13 = n + 10 from h9)) (by decide)) k360
  rw [← e_hh367] at k379
  have k380 := mj_sN (y := .inr (5, [.int (-2), .int 0, .int 0, .ref (n + 14), .int 0])) (show ((n + 13) : Nat) ≠ (n + 11) from fun h9 => absurd (Nat.add_left_cancel (show n + 13 = n + 11 from h9)) (by decide)) k361
  rw [← e_hh367] at k380
  have k381 := mj_sN (y := .inr (5, [.int (-2), .int 0, .int 0, .ref (n + 14), .int 0])) (show ((n + 13) : Nat) ≠ (n + 12) from fun h9 => absurd (Nat.add_left_cancel (show n + 13 = n + 12 from h9)) (by decide)) k362
  rw [← e_hh367] at k381
  have k382 : hh367[(n + 13)]? = some (.inr (5, [.int (-2), .int 0, .int 0, .ref (n + 14), .int 0])) := by rw [e_hh367]; exact mj_sS k363
  have k383 := mj_sN (y := .inr (5, [.int (-2), .int 0, .int 0, .ref (n + 14), .int 0])) (show ((n + 13) : Nat) ≠ (n + 14) from fun h9 => absurd (Nat.add_left_cancel (show n + 13 = n + 14 from h9)) (by decide)) k364
  rw [← e_hh367] at k383
  have k384 := mj_sN (y := .inr (5, [.int (-2), .int 0, .int 0, .ref (n + 14), .int 0])) (show ((n + 13) : Nat) ≠ (n + 15) from fun h9 => absurd (Nat.add_left_cancel (show n + 13 = n + 15 from h9)) (by decide)) k365
  rw [← e_hh367] at k384
  have l385 : hh367.length = (n + 16) := by rw [e_hh367, List.length_set]; exact l366
  refine mj_hp (h1 := hh367) (by rw [e_hh367, e_hh348, e_hh329, e_hh311, e_hh294]) ?_
  refine mj_putF ok_RF (k := 3) (by decide) fl_RF_35 rfl rfl rfl (fun _ => rfl) (fun _ => rfl) (Nat.le_of_ble_eq_true rfl) d_RF_init_48 k368 ?_
  obtain ⟨hh386, e_hh386⟩ : ∃ q_ : mj_H, q_ = hh367.set a (.inr (0, [.ref n, .ref (n + 2), .ref (n + 12), .ref (n + 13), .null, .null, .int 0])) := ⟨_, rfl⟩
  refine mj_hp e_hh386 ?_
  have k387 : hh386[a]? = some (.inr (0, [.ref n, .ref (n + 2), .ref (n + 12), .ref (n + 13), .null, .null, .int 0])) := by rw [e_hh386]; exact mj_sS k368
  have k388 := mj_sN (y := .inr (0, [.ref n, .ref (n + 2), .ref (n + 12), .ref (n + 13), .null, .null, .int 0])) (show (a : Nat) ≠ n from Nat.ne_of_lt (Nat.lt_of_lt_of_le han (Nat.le_add_right n 0))) k369
  rw [← e_hh386] at k388
  have k389 := mj_sN (y := .inr (0, [.ref n, .ref (n + 2), .ref (n + 12), .ref (n + 13), .null, .null, .int 0])) (show (a : Nat) ≠ (n + 1) from Nat.ne_of_lt (Nat.lt_of_lt_of_le han (Nat.le_add_right n 1))) k370
  rw [← e_hh386] at k389
  have k390 := mj_sN (y := .inr (0, [.ref n, .ref (n + 2), .ref (n + 12), .ref (n + 13), .null, .null, .int 0])) (show (a : Nat) ≠ (n + 2) from Nat.ne_of_lt (Nat.lt_of_lt_of_le han (Nat.le_add_right n 2))) k371
  rw [← e_hh386] at k390
  have k391 := mj_sN (y := .inr (0, [.ref n, .ref (n + 2), .ref (n + 12), .ref (n + 13), .null, .null, .int 0])) (show (a : Nat) ≠ (n + 3) from Nat.ne_of_lt (Nat.lt_of_lt_of_le han (Nat.le_add_right n 3))) k372
  rw [← e_hh386] at k391
  have k392 := mj_sN (y := .inr (0, [.ref n, .ref (n + 2), .ref (n + 12), .ref (n + 13), .null, .null, .int 0])) (show (a : Nat) ≠ (n + 4) from Nat.ne_of_lt (Nat.lt_of_lt_of_le han (Nat.le_add_right n 4))) k373
  rw [← e_hh386] at k392
  have k393 := mj_sN (y := .inr (0, [.ref n, .ref (n + 2), .ref (n + 12), .ref (n + 13), .null, .null, .int 0])) (show (a : Nat) ≠ (n + 5) from Nat.ne_of_lt (Nat.lt_of_lt_of_le han (Nat.le_add_right n 5))) k374
  rw [← e_hh386] at k393
  have k394 := mj_sN (y := .inr (0, [.ref n, .ref (n + 2), .ref (n + 12), .ref (n + 13), .null, .null, .int 0])) (show (a : Nat) ≠ (n + 6) from Nat.ne_of_lt (Nat.lt_of_lt_of_le han (Nat.le_add_right n 6))) k375
  rw [← e_hh386] at k394
  have k395 := mj_sN (y := .inr (0, [.ref n, .ref (n + 2), .ref (n + 12), .ref (n + 13), .null, .null, .int 0])) (show (a : Nat) ≠ (n + 7) from Nat.ne_of_lt (Nat.lt_of_lt_of_le han (Nat.le_add_right n 7))) k376
  rw [← e_hh386] at k395
  have k396 := mj_sN (y := .inr (0, [.ref n, .ref (n + 2), .ref (n + 12), .ref (n + 13), .null, .null, .int 0])) (show (a : Nat) ≠ (n + 8) from Nat.ne_of_lt (Nat.lt_of_lt_of_le han (Nat.le_add_right n 8))) k377
  rw [← e_hh386] at k396
  have k397 := mj_sN (y := .inr (0, [.ref n, .ref (n + 2), .ref (n + 12), .ref (n + 13), .null, .null, .int 0])) (show (a : Nat) ≠ (n + 9) from Nat.ne_of_lt (Nat.lt_of_lt_of_le han (Nat.le_add_right n 9))) k378
  rw [← e_hh386] at k397
  have k398 := mj_sN (y := .inr (0, [.ref n, .ref (n + 2), .ref (n + 12), .ref (n + 13), .null, .null, .int 0])) (show (a : Nat) ≠ (n + 10) from Nat.ne_of_lt (Nat.lt_of_lt_of_le han (Nat.le_add_right n 10))) k379
  rw [← e_hh386] at k398
  have k399 := mj_sN (y := .inr (0, [.ref n, .ref (n + 2), .ref (n + 12), .ref (n + 13), .null, .null, .int 0])) (show (a : Nat) ≠ (n + 11) from Nat.ne_of_lt (Nat.lt_of_lt_of_le han (Nat.le_add_right n 11))) k380
  rw [← e_hh386] at k399
  have k400 := mj_sN (y := .inr (0, [.ref n, .ref (n + 2), .ref (n + 12), .ref (n + 13), .null, .null, .int 0])) (show (a : Nat) ≠ (n + 12) from Nat.ne_of_lt (Nat.lt_of_lt_of_le han (Nat.le_add_right n 12))) k381
  rw [← e_hh386] at k400
  have k401 := mj_sN (y := .inr (0, [.ref n, .ref (n + 2), .ref (n + 12), .ref (n + 13), .null, .null, .int 0])) (show (a : Nat) ≠ (n + 13) from Nat.ne_of_lt (Nat.lt_of_lt_of_le han (Nat.le_add_right n 13))) k382
  rw [← e_hh386] at k401
  have k402 := mj_sN (y := .inr (0, [.ref n, .ref (n + 2), .ref (n + 12), .ref (n + 13), .null, .null, .int 0])) (show (a : Nat) ≠ (n + 14) from Nat.ne_of_lt (Nat.lt_of_lt_of_le han (Nat.le_add_right n 14))) k383
  rw [← e_hh386] at k402
  have k403 := mj_sN (y := .inr (0, [.ref n, .ref (n + 2), .ref (n + 12), .ref (n + 13), .null, .null, .int 0])) (show (a : Nat) ≠ (n + 15) from Nat.ne_of_lt (Nat.lt_of_lt_of_le han (Nat.le_add_right n 15))) k384
  rw [← e_hh386] at k403
  have l404 : hh386.length = (n + 16) := by rw [e_hh386, List.length_set]; exact l385
  refine mj_aload_n d_RF_init_51 rfl ?_
  refine mj_new (kc := 9) (ks := 409) (fs := [.int 0, .int 0, .int 0, .null, .null, .null, .null]) ok_Pi cl_RF_39 ia_Pi in_Pi d_RF_init_52 nf_Pi (fun _ => rfl) ?_
  refine mj_ra l404 ?_
  obtain ⟨hh405, e_hh405⟩ : ∃ q_ : mj_H, q_ = hh386 ++ [.inr (4, [.int 0, .int 0, .int 0, .null, .null, .null, .null])] := ⟨_, rfl⟩
  refine mj_hp e_hh405 ?_
  have k406 := mj_al (t := [.inr (4, [.int 0, .int 0, .int 0, .null, .null, .null, .null])]) k387
  rw [← e_hh405] at k406
  have k407 := mj_al (t := [.inr (4, [.int 0, .int 0, .int 0, .null, .null, .null, .null])]) k388
  rw [← e_hh405] at k407
  have k408 := mj_al (t := [.inr (4, [.int 0, .int 0, .int 0, .null, .null, .null, .null])]) k389
  rw [← e_hh405] at k408
  have k409 := mj_al (t := [.inr (4, [.int 0, .int 0, .int 0, .null, .null, .null, .null])]) k390
  rw [← e_hh405] at k409
  have k410 := mj_al (t := [.inr (4, [.int 0, .int 0, .int 0, .null, .null, .null, .null])]) k391
  rw [← e_hh405] at k410
  have k411 := mj_al (t := [.inr (4, [.int 0, .int 0, .int 0, .null, .null, .null, .null])]) k392
  rw [← e_hh405] at k411
  have k412 := mj_al (t := [.inr (4, [.int 0, .int 0, .int 0, .null, .null, .null, .null])]) k393
  rw [← e_hh405] at k412
  have k413 := mj_al (t := [.inr (4, [.int 0, .int 0, .int 0, .null, .null, .null, .null])]) k394
  rw [← e_hh405] at k413
  have k414 := mj_al (t := [.inr (4, [.int 0, .int 0, .int 0, .null, .null, .null, .null])]) k395
  rw [← e_hh405] at k414
  have k415 := mj_al (t := [.inr (4, [.int 0, .int 0, .int 0, .null, .null, .null, .null])]) k396
  rw [← e_hh405] at k415
  have k416 := mj_al (t := [.inr (4, [.int 0, .int 0, .int 0, .null, .null, .null, .null])]) k397
  rw [← e_hh405] at k416
  have k417 := mj_al (t := [.inr (4, [.int 0, .int 0, .int 0, .null, .null, .null, .null])]) k398
  rw [← e_hh405] at k417
  have k418 := mj_al (t := [.inr (4, [.int 0, .int 0, .int 0, .null, .null, .null, .null])]) k399
  rw [← e_hh405] at k418
  have k419 := mj_al (t := [.inr (4, [.int 0, .int 0, .int 0, .null, .null, .null, .null])]) k400
  rw [← e_hh405] at k419
  have k420 := mj_al (t := [.inr (4, [.int 0, .int 0, .int 0, .null, .null, .null, .null])]) k401
  rw [← e_hh405] at k420
  have k421 := mj_al (t := [.inr (4, [.int 0, .int 0, .int 0, .null, .null, .null, .null])]) k402
  rw [← e_hh405] at k421
  have k422 := mj_al (t := [.inr (4, [.int 0, .int 0, .int 0, .null, .null, .null, .null])]) k403
  rw [← e_hh405] at k422
  have k423 := mj_ae (x := .inr (4, [.int 0, .int 0, .int 0, .null, .null, .null, .null])) l404
  rw [← e_hh405] at k423
  have l424 := mj_an (x := .inr (4, [.int 0, .int 0, .int 0, .null, .null, .null, .null])) l404
  rw [← e_hh405] at l424
  refine mj_dup d_RF_init_55 rfl ?_
  refine mj_cIN (kc := 5) (ks := 208) (S := [.ref (n + 16), .ref a]) (S1 := [.ref (n + 16), .ref a]) (c_Pi_init k423 l424) rfl rfl d_RF_init_56 cw_Pi_init mn_RF_41 im_Pi_init (by decide) rfl (Nat.le_of_ble_eq_true rfl) rfl rfl ?_
  obtain ⟨hh425, e_hh425⟩ : ∃ q_ : mj_H, q_ = hh405 ++ ([.inl (3, .inl (fun _ => 0))] : mj_H) := ⟨_, rfl⟩
  have k426 := mj_al (t := [.inl (3, .inl (fun _ => 0))]) k406
  rw [← e_hh425] at k426
  have k427 := mj_al (t := [.inl (3, .inl (fun _ => 0))]) k407
  rw [← e_hh425] at k427
  have k428 := mj_al (t := [.inl (3, .inl (fun _ => 0))]) k408
  rw [← e_hh425] at k428
  have k429 := mj_al (t := [.inl (3, .inl (fun _ => 0))]) k409
  rw [← e_hh425] at k429
  have k430 := mj_al (t := [.inl (3, .inl (fun _ => 0))]) k410
  rw [← e_hh425] at k430
  have k431 := mj_al (t := [.inl (3, .inl (fun _ => 0))]) k411
  rw [← e_hh425] at k431
  have k432 := mj_al (t := [.inl (3, .inl (fun _ => 0))]) k412
  rw [← e_hh425] at k432
  have k433 := mj_al (t := [.inl (3, .inl (fun _ => 0))]) k413
  rw [← e_hh425] at k433
  have k434 := mj_al (t := [.inl (3, .inl (fun _ => 0))]) k414
  rw [← e_hh425] at k434
  have k435 := mj_al (t := [.inl (3, .inl (fun _ => 0))]) k415
  rw [← e_hh425] at k435
  have k436 := mj_al (t := [.inl (3, .inl (fun _ => 0))]) k416
  rw [← e_hh425] at k436
  have k437 := mj_al (t := [.inl (3, .inl (fun _ => 0))]) k417
  rw [← e_hh425] at k437
  have k438 := mj_al (t := [.inl (3, .inl (fun _ => 0))]) k418
  rw [← e_hh425] at k438
  have k439 := mj_al (t := [.inl (3, .inl (fun _ => 0))]) k419
  rw [← e_hh425] at k439
  have k440 := mj_al (t := [.inl (3, .inl (fun _ => 0))]) k420
  rw [← e_hh425] at k440
  have k441 := mj_al (t := [.inl (3, .inl (fun _ => 0))]) k421
  rw [← e_hh425] at k441
  have k442 := mj_al (t := [.inl (3, .inl (fun _ => 0))]) k422
  rw [← e_hh425] at k442
  have k443 := mj_al (t := [.inl (3, .inl (fun _ => 0))]) k423
  rw [← e_hh425] at k443
  have k444 := mj_ae (x := .inl (3, .inl (fun _ => 0))) l424
  rw [← e_hh425] at k444
  have l445 := mj_an (x := .inl (3, .inl (fun _ => 0))) l424
  rw [← e_hh425] at l445
  obtain ⟨hh446, e_hh446⟩ : ∃ q_ : mj_H, q_ = hh425.set (n + 16) (.inr (4, [.int 0, .int 0, .int 0, .ref (n + 17), .null, .null, .null])) := ⟨_, rfl⟩
  have k447 := mj_sN (y := .inr (4, [.int 0, .int 0, .int 0, .ref (n + 17), .null, .null, .null])) (show ((n + 16) : Nat) ≠ a from (Nat.ne_of_lt (Nat.lt_of_lt_of_le han (Nat.le_add_right n 16))).symm) k426
  rw [← e_hh446] at k447
  have k448 := mj_sN (y := .inr (4, [.int 0, .int 0, .int 0, .ref (n + 17), .null, .null, .null])) (show ((n + 16) : Nat) ≠ n from fun h9 => absurd (Nat.add_left_cancel (show n + 16 = n + 0 from h9)) (by decide)) k427
  rw [← e_hh446] at k448
  have k449 := mj_sN (y := .inr (4, [.int 0, .int 0, .int 0, .ref (n + 17), .null, .null, .null])) (show ((n + 16) : Nat) ≠ (n + 1) from fun h9 => absurd (Nat.add_left_cancel (show n + 16 = n + 1 from h9)) (by decide)) k428
  rw [← e_hh446] at k449
  have k450 := mj_sN (y := .inr (4, [.int 0, .int 0, .int 0, .ref (n + 17), .null, .null, .null])) (show ((n + 16) : Nat) ≠ (n + 2) from fun h9 => absurd (Nat.add_left_cancel (show n + 16 = n + 2 from h9)) (by decide)) k429
  rw [← e_hh446] at k450
  have k451 := mj_sN (y := .inr (4, [.int 0, .int 0, .int 0, .ref (n + 17), .null, .null, .null])) (show ((n + 16) : Nat) ≠ (n + 3) from fun h9 => absurd (Nat.add_left_cancel (show n + 16 = n + 3 from h9)) (by decide)) k430
  rw [← e_hh446] at k451
  have k452 := mj_sN (y := .inr (4, [.int 0, .int 0, .int 0, .ref (n + 17), .null, .null, .null])) (show ((n + 16) : Nat) ≠ (n + 4) from fun h9 => absurd (Nat.add_left_cancel (show n + 16 = n + 4 from h9)) (by decide)) k431
  rw [← e_hh446] at k452
  have k453 := mj_sN (y := .inr (4, [.int 0, .int 0, .int 0, .ref (n + 17), .null, .null, .null])) (show ((n + 16) : Nat) ≠ (n + 5) from fun h9 => absurd (Nat.add_left_cancel (show n + 16 = n + 5 from h9)) (by decide)) k432
  rw [← e_hh446] at k453
  have k454 := mj_sN (y := .inr (4, [.int 0, .int 0, .int 0, .ref (n + 17), .null, .null, .null])) (show ((n + 16) : Nat) ≠ (n + 6) from fun h9 => absurd (Nat.add_left_cancel (show n + 16 = n + 6 from h9)) (by decide)) k433
  rw [← e_hh446] at k454
  have k455 := mj_sN (y := .inr (4, [.int 0, .int 0, .int 0, .ref (n + 17), .null, .null, .null])) (show ((n + 16) : Nat) ≠ (n + 7) from fun h9 => absurd (Nat.add_left_cancel (show n + 16 = n + 7 from h9)) (by decide)) k434
  rw [← e_hh446] at k455
  have k456 := mj_sN (y := .inr (4, [.int 0, .int 0, .int 0, .ref (n + 17), .null, .null, .null])) (show ((n + 16) : Nat) ≠ (n + 8) from fun h9 => absurd (Nat.add_left_cancel (show n + 16 = n + 8 from h9)) (by decide)) k435
  rw [← e_hh446] at k456
  have k457 := mj_sN (y := .inr (4, [.int 0, .int 0, .int 0, .ref (n + 17), .null, .null, .null])) (show ((n + 16) : Nat) ≠ (n + 9) from fun h9 => absurd (Nat.add_left_cancel (show n + 16 = n + 9 from h9)) (by decide)) k436
  rw [← e_hh446] at k457
  have k458 := mj_sN (y := .inr (4, [.int 0, .int 0, .int 0, .ref (n + 17), .null, .null, .null])) (show ((n + 16) : Nat) ≠ (n + 10) from fun h9 => absurd (Nat.add_left_cancel (show n + 16 = n + 10 from h9)) (by decide)) k437
  rw [← e_hh446] at k458
  have k459 := mj_sN (y := .inr (4, [.int 0, .int 0, .int 0, .ref (n + 17), .null, .null, .null])) (show ((n + 16) : Nat) ≠ (n + 11) from fun h9 => absurd (Nat.add_left_cancel (show n + 16 = n + 11 from h9)) (by decide)) k438
  rw [← e_hh446] at k459
  have k460 := mj_sN (y := .inr (4, [.int 0, .int 0, .int 0, .ref (n + 17), .null, .null, .null])) (show ((n + 16) : Nat) ≠ (n + 12) from fun h9 => absurd (Nat.add_left_cancel (show n + 16 = n + 12 from h9)) (by decide)) k439
  rw [← e_hh446] at k460
  have k461 := mj_sN (y := .inr (4, [.int 0, .int 0, .int 0, .ref (n + 17), .null, .null, .null])) (show ((n + 16) : Nat) ≠ (n + 13) from fun h9 => absurd (Nat.add_left_cancel (show n + 16 = n + 13 from h9)) (by decide)) k440
  rw [← e_hh446] at k461
  have k462 := mj_sN (y := .inr (4, [.int 0, .int 0, .int 0, .ref (n + 17), .null, .null, .null])) (show ((n + 16) : Nat) ≠ (n + 14) from fun h9 => absurd (Nat.add_left_cancel (show n + 16 = n + 14 from h9)) (by decide)) k441
  rw [← e_hh446] at k462
  have k463 := mj_sN (y := .inr (4, [.int 0, .int 0, .int 0, .ref (n + 17), .null, .null, .null])) (show ((n + 16) : Nat) ≠ (n + 15) from fun h9 => absurd (Nat.add_left_cancel (show n + 16 = n + 15 from h9)) (by decide)) k442
  rw [← e_hh446] at k463
  have k464 : hh446[(n + 16)]? = some (.inr (4, [.int 0, .int 0, .int 0, .ref (n + 17), .null, .null, .null])) := by rw [e_hh446]; exact mj_sS k443
  have k465 := mj_sN (y := .inr (4, [.int 0, .int 0, .int 0, .ref (n + 17), .null, .null, .null])) (show ((n + 16) : Nat) ≠ (n + 17) from fun h9 => absurd (Nat.add_left_cancel (show n + 16 = n + 17 from h9)) (by decide)) k444
  rw [← e_hh446] at k465
  have l466 : hh446.length = (n + 18) := by rw [e_hh446, List.length_set]; exact l445
  obtain ⟨hh467, e_hh467⟩ : ∃ q_ : mj_H, q_ = hh446 ++ ([.inl (3, .inl (fun _ => 0))] : mj_H) := ⟨_, rfl⟩
  have k468 := mj_al (t := [.inl (3, .inl (fun _ => 0))]) k447
  rw [← e_hh467] at k468
  have k469 := mj_al (t := [.inl (3, .inl (fun _ => 0))]) k448
  rw [← e_hh467] at k469
  have k470 := mj_al (t := [.inl (3, .inl (fun _ => 0))]) k449
  rw [← e_hh467] at k470
  have k471 := mj_al (t := [.inl (3, .inl (fun _ => 0))]) k450
  rw [← e_hh467] at k471
  have k472 := mj_al (t := [.inl (3, .inl (fun _ => 0))]) k451
  rw [← e_hh467] at k472
  have k473 := mj_al (t := [.inl (3, .inl (fun _ => 0))]) k452
  rw [← e_hh467] at k473
  have k474 := mj_al (t := [.inl (3, .inl (fun _ => 0))]) k453
  rw [← e_hh467] at k474
  have k475 := mj_al (t := [.inl (3, .inl (fun _ => 0))]) k454
  rw [← e_hh467] at k475
  have k476 := mj_al (t := [.inl (3, .inl (fun _ => 0))]) k455
  rw [← e_hh467] at k476
  have k477 := mj_al (t := [.inl (3, .inl (fun _ => 0))]) k456
  rw [← e_hh467] at k477
  have k478 := mj_al (t := [.inl (3, .inl (fun _ => 0))]) k457
  rw [← e_hh467] at k478
  have k479 := mj_al (t := [.inl (3, .inl (fun _ => 0))]) k458
  rw [← e_hh467] at k479
  have k480 := mj_al (t := [.inl (3, .inl (fun _ => 0))]) k459
  rw [← e_hh467] at k480
  have k481 := mj_al (t := [.inl (3, .inl (fun _ => 0))]) k460
  rw [← e_hh467] at k481
  have k482 := mj_al (t := [.inl (3, .inl (fun _ => 0))]) k461
  rw [← e_hh467] at k482
  have k483 := mj_al (t := [.inl (3, .inl (fun _ => 0))]) k462
  rw [← e_hh467] at k483
  have k484 := mj_al (t := [.inl (3, .inl (fun _ => 0))]) k463
  rw [← e_hh467] at k484
  have k485 := mj_al (t := [.inl (3, .inl (fun _ => 0))]) k464
  rw [← e_hh467] at k485
  have k486 := mj_al (t := [.inl (3, .inl (fun _ => 0))]) k465
  rw [← e_hh467] at k486
  have k487 := mj_ae (x := .inl (3, .inl (fun _ => 0))) l466
  rw [← e_hh467] at k487
  have l488 := mj_an (x := .inl (3, .inl (fun _ => 0))) l466
  rw [← e_hh467] at l488
  obtain ⟨hh489, e_hh489⟩ : ∃ q_ : mj_H, q_ = hh467.set (n + 16) (.inr (4, [.int 0, .int 0, .int 0, .ref (n + 17), .ref (n + 18), .null, .null])) := ⟨_, rfl⟩
  have k490 := mj_sN (y := .inr (4, [.int 0, .int 0, .int 0, .ref (n + 17), .ref (n + 18), .null, .null])) (show ((n + 16) : Nat) ≠ a from (Nat.ne_of_lt (Nat.lt_of_lt_of_le han (Nat.le_add_right n 16))).symm) k468
  rw [← e_hh489] at k490
  have k491 := mj_sN (y := .inr (4, [.int 0, .int 0, .int 0, .ref (n + 17), .ref (n + 18), .null, .null])) (show ((n + 16) : Nat) ≠ n from fun h9 => absurd (Nat.add_left_cancel (show n + 16 = n + 0 from h9)) (by decide)) k469
  rw [← e_hh489] at k491
  have k492 := mj_sN (y := .inr (4, [.int 0, .int 0, .int 0, .ref (n + 17), .ref (n + 18), .null, .null])) (show ((n + 16) : Nat) ≠ (n + 1) from fun h9 => absurd (Nat.add_left_cancel (show n + 16 = n + 1 from h9)) (by decide)) k470
  rw [← e_hh489] at k492
  have k493 := mj_sN (y := .inr (4, [.int 0, .int 0, .int 0, .ref (n + 17), .ref (n + 18), .null, .null])) (show ((n + 16) : Nat) ≠ (n + 2) from fun h9 => absurd (Nat.add_left_cancel (show n + 16 = n + 2 from h9)) (by decide)) k471
  rw [← e_hh489] at k493
  have k494 := mj_sN (y := .inr (4, [.int 0, .int 0, .int 0, .ref (n + 17), .ref (n + 18), .null, .null])) (show ((n + 16) : Nat) ≠ (n + 3) from fun h9 => absurd (Nat.add_left_cancel (show n + 16 = n + 3 from h9)) (by decide)) k472
  rw [← e_hh489] at k494
  have k495 := mj_sN (y := .inr (4, [.int 0, .int 0, .int 0, .ref (n + 17), .ref (n + 18), .null, .null])) (show ((n + 16) : Nat) ≠ (n + 4) from fun h9 => absurd (Nat.add_left_cancel (show n + 16 = n + 4 from h9)) (by decide)) k473
  rw [← e_hh489] at k495
  have k496 := mj_sN (y := .inr (4, [.int 0, .int 0, .int 0, .ref (n + 17), .ref (n + 18), .null, .null])) (show ((n + 16) : Nat) ≠ (n + 5) from fun h9 => absurd (Nat.add_left_cancel (show n + 16 = n + 5 from h9)) (by decide)) k474
  rw [← e_hh489] at k496
  have k497 := mj_sN (y := .inr (4, [.int 0, .int 0, .int 0, .ref (n + 17), .ref (n + 18), .null, .null])) (show ((n + 16) : Nat) ≠ (n + 6) from fun h9 => absurd (Nat.add_left_cancel (show n + 16 = n + 6 from h9)) (by decide)) k475
  rw [← e_hh489] at k497
  have k498 := mj_sN (y := .inr (4, [.int 0, .int 0, .int 0, .ref (n + 17), .ref (n + 18), .null, .null])) (show ((n + 16) : Nat) ≠ (n + 7) from fun h9 => absurd (Nat.add_left_cancel (show n + 16 = n + 7 from h9)) (by decide)) k476
  rw [← e_hh489] at k498
  have k499 := mj_sN (y := .inr (4, [.int 0, .int 0, .int 0, .ref (n + 17), .ref (n + 18), .null, .null])) (show ((n + 16) : Nat) ≠ (n + 8) from fun h9 => absurd (Nat.add_left_cancel (show n + 16 = n + 8 from h9)) (by decide)) k477
  rw [← e_hh489] at k499
  have k500 := mj_sN (y := .inr (4, [.int 0, .int 0, .int 0, .ref (n + 17), .ref (n + 18), .null, .null])) (show ((n + 16) : Nat) ≠ (n + 9) from fun h9 => absurd (Nat.add_left_cancel (show n + 16 = n + 9 from h9)) (by decide)) k478
  rw [← e_hh489] at k500
  have k501 := mj_sN (y := .inr (4, [.int 0, .int 0, .int 0, .ref (n + 17), .ref (n + 18), .null, .null])) (show ((n + 16) : Nat) ≠ (n + 10) from fun h9 => absurd (Nat.add_left_cancel (show n + 16 = n + 10 from h9)) (by decide)) k479
  rw [← e_hh489] at k501
  have k502 := mj_sN (y := .inr (4, [.int 0, .int 0, .int 0, .ref (n + 17), .ref (n + 18), .null, .null])) (show ((n + 16) : Nat) ≠ (n + 11) from fun h9 => absurd (Nat.add_left_cancel (show n + 16 = n + 11 from h9)) (by decide)) k480
  rw [← e_hh489] at k502
  have k503 := mj_sN (y := .inr (4, [.int 0, .int 0, .int 0, .ref (n + 17), .ref (n + 18), .null, .null])) (show ((n + 16) : Nat) ≠ (n + 12) from fun h9 => absurd (Nat.add_left_cancel (show n + 16 = n + 12 from h9)) (by decide)) k481
  rw [← e_hh489] at k503
  have k504 := mj_sN (y := .inr (4, [.int 0, .int 0, .int 0, .ref (n + 17), .ref (n + 18), .null, .null])) (show ((n + 16) : Nat) ≠ (n + 13) from fun h9 => absurd (Nat.add_left_cancel (show n + 16 = n + 13 from h9)) (by decide)) k482
  rw [← e_hh489] at k504
  have k505 := mj_sN (y := .inr (4, [.int 0, .int 0, .int 0, .ref (n + 17), .ref (n + 18), .null, .null])) (show ((n + 16) : Nat) ≠ (n + 14) from fun h9 => absurd (Nat.add_left_cancel (show n + 16 = n + 14 from h9)) (by decide)) k483
  rw [← e_hh489] at k505
  have k506 := mj_sN (y := .inr (4, [.int 0, .int 0, .int 0, .ref (n + 17), .ref (n + 18), .null, .null])) (show ((n + 16) : Nat) ≠ (n + 15) from fun h9 => absurd (Nat.add_left_cancel (show n + 16 = n + 15 from h9)) (by decide)) k484
  rw [← e_hh489] at k506
  have k507 : hh489[(n + 16)]? = some (.inr (4, [.int 0, .int 0, .int 0, .ref (n + 17), .ref (n + 18), .null, .null])) := by rw [e_hh489]; exact mj_sS k485
  have k508 := mj_sN (y := .inr (4, [.int 0, .int 0, .int 0, .ref (n + 17), .ref (n + 18), .null, .null])) (show ((n + 16) : Nat) ≠ (n + 17) from fun h9 => absurd (Nat.add_left_cancel (show n + 16 = n + 17 from h9)) (by decide)) k486
  rw [← e_hh489] at k508
  have k509 := mj_sN (y := .inr (4, [.int 0, .int 0, .int 0, .ref (n + 17), .ref (n + 18), .null, .null])) (show ((n + 16) : Nat) ≠ (n + 18) from fun h9 => absurd (Nat.add_left_cancel (show n + 16 = n + 18 from h9)) (by decide)) k487
  rw [← e_hh489] at k509
  have l510 : hh489.length = (n + 19) := by rw [e_hh489, List.length_set]; exact l488
  obtain ⟨hh511, e_hh511⟩ : ∃ q_ : mj_H, q_ = hh489 ++ ([.inl (3, .inl (fun _ => 0))] : mj_H) := ⟨_, rfl⟩
  have k512 := mj_al (t := [.inl (3, .inl (fun _ => 0))]) k490
  rw [← e_hh511] at k512
  have k513 := mj_al (t := [.inl (3, .inl (fun _ => 0))]) k491
  rw [← e_hh511] at k513
  have k514 := mj_al (t := [.inl (3, .inl (fun _ => 0))]) k492
  rw [← e_hh511] at k514
  have k515 := mj_al (t := [.inl (3, .inl (fun _ => 0))]) k493
  rw [← e_hh511] at k515
  have k516 := mj_al (t := [.inl (3, .inl (fun _ => 0))]) k494
  rw [← e_hh511] at k516
  have k517 := mj_al (t := [.inl (3, .inl (fun _ => 0))]) k495
  rw [← e_hh511] at k517
  have k518 := mj_al (t := [.inl (3, .inl (fun _ => 0))]) k496
  rw [← e_hh511] at k518
  have k519 := mj_al (t := [.inl (3, .inl (fun _ => 0))]) k497
  rw [← e_hh511] at k519
  have k520 := mj_al (t := [.inl (3, .inl (fun _ => 0))]) k498
  rw [← e_hh511] at k520
  have k521 := mj_al (t := [.inl (3, .inl (fun _ => 0))]) k499
  rw [← e_hh511] at k521
  have k522 := mj_al (t := [.inl (3, .inl (fun _ => 0))]) k500
  rw [← e_hh511] at k522
  have k523 := mj_al (t := [.inl (3, .inl (fun _ => 0))]) k501
  rw [← e_hh511] at k523
  have k524 := mj_al (t := [.inl (3, .inl (fun _ => 0))]) k502
  rw [← e_hh511] at k524
  have k525 := mj_al (t := [.inl (3, .inl (fun _ => 0))]) k503
  rw [← e_hh511] at k525
  have k526 := mj_al (t := [.inl (3, .inl (fun _ => 0))]) k504
  rw [← e_hh511] at k526
  have k527 := mj_al (t := [.inl (3, .inl (fun _ => 0))]) k505
  rw [← e_hh511] at k527
  have k528 := mj_al (t := [.inl (3, .inl (fun _ => 0))]) k506
  rw [← e_hh511] at k528
  have k529 := mj_al (t := [.inl (3, .inl (fun _ => 0))]) k507
  rw [← e_hh511] at k529
  have k530 := mj_al (t := [.inl (3, .inl (fun _ => 0))]) k508
  rw [← e_hh511] at k530
  have k531 := mj_al (t := [.inl (3, .inl (fun _ => 0))]) k509
  rw [← e_hh511] at k531
  have k532 := mj_ae (x := .inl (3, .inl (fun _ => 0))) l510
  rw [← e_hh511] at k532
  have l533 := mj_an (x := .inl (3, .inl (fun _ => 0))) l510
  rw [← e_hh511] at l533
  obtain ⟨hh534, e_hh534⟩ : ∃ q_ : mj_H, q_ = hh511.set (n + 16) (.inr (4, [.int 0, .int 0, .int 0, .ref (n + 17), .ref (n + 18), .ref (n + 19), .null])) := ⟨_, rfl⟩
  have k535 := mj_sN (y := .inr (4, [.int 0, .int 0, .int 0, .ref (n + 17), .ref (n + 18), .ref (n + 19), .null])) (show ((n + 16) : Nat) ≠ a from (Nat.ne_of_lt (Nat.lt_of_lt_of_le han (Nat.le_add_right n 16))).symm) k512
  rw [← e_hh534] at k535
  have k536 := mj_sN (y := .inr (4, [.int 0, .int 0, .int 0, .ref (n + 17), .ref (n + 18), .ref (n + 19), .null])) (show ((n + 16) : Nat) ≠ n from fun h9 => absurd (Nat.add_left_cancel (show n + 16 = n + 0 from h9)) (by decide)) k513
  rw [← e_hh534] at k536
  have k537 := mj_sN (y := .inr (4, [.int 0, .int 0, .int 0, .ref (n + 17), .ref (n + 18), .ref (n + 19), .null])) (show ((n + 16) : Nat) ≠ (n + 1) from fun h9 => absurd (Nat.add_left_cancel (show n + 16 = n + 1 from h9)) (by decide)) k514
  rw [← e_hh534] at k537
  have k538 := mj_sN (y := .inr (4, [.int 0, .int 0, .int 0, .ref (n + 17), .ref (n + 18), .ref (n + 19), .null])) (show ((n + 16) : Nat) ≠ (n + 2) from fun h9 => absurd (Nat.add_left_cancel (show n + 16 = n + 2 from h9)) (by decide)) k515
  rw [← e_hh534] at k538
  have k539 := mj_sN (y := .inr (4, [.int 0, .int 0, .int 0, .ref (n + 17), .ref (n + 18), .ref (n + 19), .null])) (show ((n + 16) : Nat) ≠ (n + 3) from fun h9 => absurd (Nat.add_left_cancel (show n + 16 = n + 3 from h9)) (by decide)) k516
  rw [← e_hh534] at k539
  have k540 := mj_sN (y := .inr (4, [.int 0, .int 0, .int 0, .ref (n + 17), .ref (n + 18), .ref (n + 19), .null])) (show ((n + 16) : Nat) ≠ (n + 4) from fun h9 => absurd (Nat.add_left_cancel (show n + 16 = n + 4 from h9)) (by decide)) k517
  rw [← e_hh534] at k540
  have k541 := mj_sN (y := .inr (4, [.int 0, .int 0, .int 0, .ref (n + 17), .ref (n + 18), .ref (n + 19), .null])) (show ((n + 16) : Nat) ≠ (n + 5) from fun h9 => absurd (Nat.add_left_cancel (show n + 16 = n + 5 from h9)) (by decide)) k518
  rw [← e_hh534] at k541
  have k542 := mj_sN (y := .inr (4, [.int 0, .int 0, .int 0, .ref (n + 17), .ref (n + 18), .ref (n + 19), .null])) (show ((n + 16) : Nat) ≠ (n + 6) from fun h9 => absurd (Nat.add_left_cancel (show n + 16 = n + 6 from h9)) (by decide)) k519
  rw [← e_hh534] at k542
  have k543 := mj_sN (y := .inr (4, [.int 0, .int 0, .int 0, .ref (n + 17), .ref (n + 18), .ref (n + 19), .null])) (show ((n + 16) : Nat) ≠ (n + 7) from fun h9 => absurd (Nat.add_left_cancel (show n + 16 = n + 7 from h9)) (by decide)) k520
  rw [← e_hh534] at k543
  have k544 := mj_sN (y := .inr (4, [.int 0, .int 0, .int 0, .ref (n + 17), .ref (n + 18), .ref (n + 19), .null])) (show ((n + 16) : Nat) ≠ (n + 8) from fun h9 => absurd (Nat.add_left_cancel (show n + 16 = n + 8 from h9)) (by decide)) k521
  rw [← e_hh534] at k544
  have k545 := mj_sN (y := .inr (4, [.int 0, .int 0, .int 0, .ref (n + 17), .ref (n + 18), .ref (n + 19), .null])) (show ((n + 16) : Nat) ≠ (n + 9) from fun h9 => absurd (Nat.add_left_cancel (show n + 16 = n + 9 from h9)) (by decide)) k522
  rw [← e_hh534] at k545
  have k546 := mj_sN (y := .inr (4, [.int 0, .int 0, .int 0, .ref (n + 17), .ref (n + 18), .ref (n + 19), .null])) (show ((n + 16) : Nat) ≠ (n + 10) from fun h9 => absurd (Nat.add_left_cancel (show n + 16 = n + 10 from h9)) (by decide)) k523
  rw [← e_hh534] at k546
  have k547 := mj_sN (y := .inr (4, [.int 0, .int 0, .int 0, .ref (n + 17), .ref (n + 18), .ref (n + 19), .null])) (show ((n + 16) : Nat) ≠ (n + 11) from fun h9 => absurd (Nat.add_left_cancel (show n + 16 = n + 11 from h9)) (by decide)) k524
  rw [← e_hh534] at k547
  have k548 := mj_sN (y := .inr (4, [.int 0, .int 0, .int 0, .ref (n + 17), .ref (n + 18), .ref (n + 19), .null])) (show ((n + 16) : Nat) ≠ (n + 12) from fun h9 => absurd (Nat.add_left_cancel (show n + 16 = n + 12 from h9)) (by decide)) k525
  rw [← e_hh534] at k548
  have k549 := mj_sN (y := .inr (4, [.int 0, .int 0, .int 0, .ref (n + 17), .ref (n + 18), .ref (n + 19), .null])) (show ((n + 16) : Nat) ≠ (n + 13) from fun h9 => absurd (Nat.add_left_cancel (show n + 16 = n + 13 from h9)) (by decide)) k526
  rw [← e_hh534] at k549
  have k550 := mj_sN (y := .inr (4, [.int 0, .int 0, .int 0, .ref (n + 17), .ref (n + 18), .ref (n + 19), .null])) (show ((n + 16) : Nat) ≠ (n + 14) from fun h9 => absurd (Nat.add_left_cancel (show n + 16 = n + 14 from h9)) (by decide)) k527
  rw [← e_hh534] at k550
  have k551 := mj_sN (y := .inr (4, [.int 0, .int 0, .int 0, .ref (n + 17), .ref (n + 18), .ref (n + 19), .null])) (show ((n + 16) : Nat) ≠ (n + 15) from fun h9 => absurd (Nat.add_left_cancel (show n + 16 = n + 15 from h9)) (by decide)) k528
  rw [← e_hh534] at k551
  have k552 : hh534[(n + 16)]? = some (.inr (4, [.int 0, .int 0, .int 0, .ref (n + 17), .ref (n + 18), .ref (n + 19), .null])) := by rw [e_hh534]; exact mj_sS k529
  have k553 := mj_sN (y := .inr (4, [.int 0, .int 0, .int 0, .ref (n + 17), .ref (n + 18), .ref (n + 19), .null])) (show ((n + 16) : Nat) ≠ (n + 17) from fun h9 => absurd (Nat.add_left_cancel (show n + 16 = n + 17 from h9)) (by decide)) k530
  rw [← e_hh534] at k553
  have k554 := mj_sN (y := .inr (4, [.int 0, .int 0, .int 0, .ref (n + 17), .ref (n + 18), .ref (n + 19), .null])) (show ((n + 16) : Nat) ≠ (n + 18) from fun h9 => absurd (Nat.add_left_cancel (show n + 16 = n + 18 from h9)) (by decide)) k531
  rw [← e_hh534] at k554
  have k555 := mj_sN (y := .inr (4, [.int 0, .int 0, .int 0, .ref (n + 17), .ref (n + 18), .ref (n + 19), .null])) (show ((n + 16) : Nat) ≠ (n + 19) from fun h9 => absurd (Nat.add_left_cancel (show n + 16 = n + 19 from h9)) (by decide)) k532
  rw [← e_hh534] at k555
  have l556 : hh534.length = (n + 20) := by rw [e_hh534, List.length_set]; exact l533
  obtain ⟨hh557, e_hh557⟩ : ∃ q_ : mj_H, q_ = hh534 ++ ([.inl (192, .inl (fun _ => 0))] : mj_H) := ⟨_, rfl⟩
  have k558 := mj_al (t := [.inl (192, .inl (fun _ => 0))]) k535
  rw [← e_hh557] at k558
  have k559 := mj_al (t := [.inl (192, .inl (fun _ => 0))]) k536
  rw [← e_hh557] at k559
  have k560 := mj_al (t := [.inl (192, .inl (fun _ => 0))]) k537
  rw [← e_hh557] at k560
  have k561 := mj_al (t := [.inl (192, .inl (fun _ => 0))]) k538
  rw [← e_hh557] at k561
  have k562 := mj_al (t := [.inl (192, .inl (fun _ => 0))]) k539
  rw [← e_hh557] at k562
  have k563 := mj_al (t := [.inl (192, .inl (fun _ => 0))]) k540
  rw [← e_hh557] at k563
  have k564 := mj_al (t := [.inl (192, .inl (fun _ => 0))]) k541
  rw [← e_hh557] at k564
  have k565 := mj_al (t := [.inl (192, .inl (fun _ => 0))]) k542
  rw [← e_hh557] at k565
  have k566 := mj_al (t := [.inl (192, .inl (fun _ => 0))]) k543
  rw [← e_hh557] at k566
  have k567 := mj_al (t := [.inl (192, .inl (fun _ => 0))]) k544
  rw [← e_hh557] at k567
  have k568 := mj_al (t := [.inl (192, .inl (fun _ => 0))]) k545
  rw [← e_hh557] at k568
  have k569 := mj_al (t := [.inl (192, .inl (fun _ => 0))]) k546
  rw [← e_hh557] at k569
  have k570 := mj_al (t := [.inl (192, .inl (fun _ => 0))]) k547
  rw [← e_hh557] at k570
  have k571 := mj_al (t := [.inl (192, .inl (fun _ => 0))]) k548
  rw [← e_hh557] at k571
  have k572 := mj_al (t := [.inl (192, .inl (fun _ => 0))]) k549
  rw [← e_hh557] at k572
  have k573 := mj_al (t := [.inl (192, .inl (fun _ => 0))]) k550
  rw [← e_hh557] at k573
  have k574 := mj_al (t := [.inl (192, .inl (fun _ => 0))]) k551
  rw [← e_hh557] at k574
  have k575 := mj_al (t := [.inl (192, .inl (fun _ => 0))]) k552
  rw [← e_hh557] at k575
  have k576 := mj_al (t := [.inl (192, .inl (fun _ => 0))]) k553
  rw [← e_hh557] at k576
  have k577 := mj_al (t := [.inl (192, .inl (fun _ => 0))]) k554
  rw [← e_hh557] at k577
  have k578 := mj_al (t := [.inl (192, .inl (fun _ => 0))]) k555
  rw [← e_hh557] at k578
  have k579 := mj_ae (x := .inl (192, .inl (fun _ => 0))) l556
  rw [← e_hh557] at k579
  have l580 := mj_an (x := .inl (192, .inl (fun _ => 0))) l556
  rw [← e_hh557] at l580
  obtain ⟨hh581, e_hh581⟩ : ∃ q_ : mj_H, q_ = hh557.set (n + 16) (.inr (4, [.int 0, .int 0, .int 0, .ref (n + 17), .ref (n + 18), .ref (n + 19), .ref (n + 20)])) := ⟨_, rfl⟩
  have k582 := mj_sN (y := .inr (4, [.int 0, .int 0, .int 0, .ref (n + 17), .ref (n + 18), .ref (n + 19), .ref (n + 20)])) (show ((n + 16) : Nat) ≠ a from (Nat.ne_of_lt (Nat.lt_of_lt_of_le han (Nat.le_add_right n 16))).symm) k558
  rw [← e_hh581] at k582
  have k583 := mj_sN (y := .inr (4, [.int 0, .int 0, .int 0, .ref (n + 17), .ref (n + 18), .ref (n + 19), .ref (n + 20)])) (show ((n + 16) : Nat) ≠ n from fun h9 => absurd (Nat.add_left_cancel (show n + 16 = n + 0 from h9)) (by decide)) k559
  rw [← e_hh581] at k583
  have k584 := mj_sN (y := .inr (4, [.int 0, .int 0, .int 0, .ref (n + 17), .ref (n + 18), .ref (n + 19), .ref (n + 20)])) (show ((n + 16) : Nat) ≠ (n + 1) from fun h9 => absurd (Nat.add_left_cancel (show n + 16 = n + 1 from h9)) (by decide)) k560
  rw [← e_hh581] at k584
  have k585 := mj_sN (y := .inr (4, [.int 0, .int 0, .int 0, .ref (n + 17), .ref (n + 18), .ref (n + 19), .ref (n + 20)])) (show ((n + 16) : Nat) ≠ (n + 2) from fun h9 => absurd (Nat.add_left_cancel (show n + 16 = n + 2 from h9)) (by decide)) k561
  rw [← e_hh581] at k585
  have k586 := mj_sN (y := .inr (4, [.int 0, .int 0, .int 0, .ref (n + 17), .ref (n + 18), .ref (n + 19), .ref (n + 20)])) (show ((n + 16) : Nat) ≠ (n + 3) from fun h9 => absurd (Nat.add_left_cancel (show n + 16 = n + 3 from h9)) (by decide)) k562
  rw [← e_hh581] at k586
  have k587 := mj_sN (y := .inr (4, [.int 0, .int 0, .int 0, .ref (n + 17), .ref (n + 18), .ref (n + 19), .ref (n + 20)])) (show ((n + 16) : Nat) ≠ (n + 4) from fun h9 => absurd (Nat.add_left_cancel (show n + 16 = n + 4 from h9)) (by decide)) k563
  rw [← e_hh581] at k587
  have k588 := mj_sN (y := .inr (4, [.int 0, .int 0, .int 0, .ref (n + 17), .ref (n + 18), .ref (n + 19), .ref (n + 20)])) (show ((n + 16) : Nat) ≠ (n + 5) from fun h9 => absurd (Nat.add_left_cancel (show n + 16 = n + 5 from h9)) (by decide)) k564
  rw [← e_hh581] at k588
  have k589 := mj_sN (y := .inr (4, [.int 0, .int 0, .int 0, .ref (n + 17), .ref (n + 18), .ref (n + 19), .ref (n + 20)])) (show ((n + 16) : Nat) ≠ (n + 6) from fun h9 => absurd (Nat.add_left_cancel (show n + 16 = n + 6 from h9)) (by decide)) k565
  rw [← e_hh581] at k589
  have k590 := mj_sN (y := .inr (4, [.int 0, .int 0, .int 0, .ref (n + 17), .ref (n + 18), .ref (n + 19), .ref (n + 20)])) (show ((n + 16) : Nat) ≠ (n + 7) from fun h9 => absurd (Nat.add_left_cancel (show n + 16 = n + 7 from h9)) (by decide)) k566
  rw [← e_hh581] at k590
  have k591 := mj_sN (y := .inr (4, [.int 0, .int 0, .int 0, .ref (n + 17), .ref (n + 18), .ref (n + 19), .ref (n + 20)])) (show ((n + 16) : Nat) ≠ (n + 8) from fun h9 => absurd (Nat.add_left_cancel (show n + 16 = n + 8 from h9)) (by decide)) k567
  rw [← e_hh581] at k591
  have k592 := mj_sN (y := .inr (4, [.int 0, .int 0, .int 0, .ref (n + 17), .ref (n + 18), .ref (n + 19), .ref (n + 20)])) (show ((n + 16) : Nat) ≠ (n + 9) from fun h9 => absurd (Nat.add_left_cancel (show n + 16 = n + 9 from h9)) (by decide)) k568
  rw [← e_hh581] at k592
  have k593 := mj_sN (y := .inr (4, [.int 0, .int 0, .int 0, .ref (n + 17), .ref (n + 18), .ref (n + 19), .ref (n + 20)])) (show ((n + 16) : Nat) ≠ (n + 10) from fun h9 => absurd (Nat.add_left_cancel (show n + 16 = n + 10 from h9)) (by decide)) k569
  rw [← e_hh581] at k593
  have k594 := mj_sN (y := .inr (4, [.int 0, .int 0, .int 0, .ref (n + 17), .ref (n + 18), .ref (n + 19), .ref (n + 20)])) (show ((n + 16) : Nat) ≠ (n + 11) from fun h9 => absurd (Nat.add_left_cancel (show n + 16 = n + 11 from h9)) (by decide)) k570
  rw [← e_hh581] at k594
  have k595 := mj_sN (y := .inr (4, [.int 0, .int 0, .int 0, .ref (n + 17), .ref (n + 18), .ref (n + 19), .ref (n + 20)])) (show ((n + 16) : Nat) ≠ (n + 12) from fun h9 => absurd (Nat.add_left_cancel (show n + 16 = n + 12 from h9)) (by decide)) k571
  rw [← e_hh581] at k595
  have k596 := mj_sN (y := .inr (4, [.int 0, .int 0, .int 0, .ref (n + 17), .ref (n + 18), .ref (n + 19), .ref (n + 20)])) (show ((n + 16) : Nat) ≠ (n + 13) from fun h9 => absurd (Nat.add_left_cancel (show n + 16 = n + 13 from h9)) (by decide)) k572
  rw [← e_hh581] at k596
  have k597 := mj_sN (y := .inr (4, [.int 0, .int 0, .int 0, .ref (n + 17), .ref (n + 18), .ref (n + 19), .ref (n + 20)])) (show ((n + 16) : Nat) ≠ (n + 14) from fun h9 => absurd (Nat.add_left_cancel (show n + 16 = n + 14 from h9)) (by decide)) k573
  rw [← e_hh581] at k597
  have k598 := mj_sN (y := .inr (4, [.int 0, .int 0, .int 0, .ref (n + 17), .ref (n + 18), .ref (n + 19), .ref (n + 20)])) (show ((n + 16) : Nat) ≠ (n + 15) from fun h9 => absurd (Nat.add_left_cancel (show n + 16 = n + 15 from h9)) (by decide)) k574
  rw [← e_hh581] at k598
  have k599 : hh581[(n + 16)]? = some (.inr (4, [.int 0, .int 0, .int 0, .ref (n + 17), .ref (n + 18), .ref (n + 19), .ref (n + 20)])) := by rw [e_hh581]; exact mj_sS k575
  have k600 := mj_sN (y := .inr (4, [.int 0, .int 0, .int 0, .ref (n + 17), .ref (n + 18), .ref (n + 19), .ref (n + 20)])) (show ((n + 16) : Nat) ≠ (n + 17) from fun h9 => absurd (Nat.add_left_cancel (show n + 16 = n + 17 from h9)) (by decide)) k576
  rw [← e_hh581] at k600
  have k601 := mj_sN (y := .inr (4, [.int 0, .int 0, .int 0, .ref (n + 17), .ref (n + 18), .ref (n + 19), .ref (n + 20)])) (show ((n + 16) : Nat) ≠ (n + 18) from fun h9 => absurd (Nat.add_left_cancel (show n + 16 = n + 18 from h9)) (by decide)) k577
  rw [← e_hh581] at k601
  have k602 := mj_sN (y := .inr (4, [.int 0, .int 0, .int 0, .ref (n + 17), .ref (n + 18), .ref (n + 19), .ref (n + 20)])) (show ((n + 16) : Nat) ≠ (n + 19) from fun h9 => absurd (Nat.add_left_cancel (show n + 16 = n + 19 from h9)) (by decide)) k578
  rw [← e_hh581] at k602
  have k603 := mj_sN (y := .inr (4, [.int 0, .int 0, .int 0, .ref (n + 17), .ref (n + 18), .ref (n + 19), .ref (n + 20)])) (show ((n + 16) : Nat) ≠ (n + 20) from fun h9 => absurd (Nat.add_left_cancel (show n + 16 = n + 20 from h9)) (by decide)) k579
  rw [← e_hh581] at k603
  have l604 : hh581.length = (n + 21) := by rw [e_hh581, List.length_set]; exact l580
  refine mj_hp (h1 := hh581) (by rw [e_hh581, e_hh557, e_hh534, e_hh511, e_hh489, e_hh467, e_hh446, e_hh425]) ?_
  refine mj_put ok_RF (k := 4) (by decide) fl_RF_42 rfl (fun _ => rfl) (fun _ => rfl) (Nat.le_of_ble_eq_true rfl) d_RF_init_59 k582 ?_
  obtain ⟨hh605, e_hh605⟩ : ∃ q_ : mj_H, q_ = hh581.set a (.inr (0, [.ref n, .ref (n + 2), .ref (n + 12), .ref (n + 13), .ref (n + 16), .null, .int 0])) := ⟨_, rfl⟩
  refine mj_hp e_hh605 ?_
  have k606 : hh605[a]? = some (.inr (0, [.ref n, .ref (n + 2), .ref (n + 12), .ref (n + 13), .ref (n + 16), .null, .int 0])) := by rw [e_hh605]; exact mj_sS k582
  have k607 := mj_sN (y := .inr (0, [.ref n, .ref (n + 2), .ref (n + 12), .ref (n + 13), .ref (n + 16), .null, .int 0])) (show (a : Nat) ≠ n from Nat.ne_of_lt (Nat.lt_of_lt_of_le han (Nat.le_add_right n 0))) k583
  rw [← e_hh605] at k607
  have k608 := mj_sN (y := .inr (0, [.ref n, .ref (n + 2), .ref (n + 12), .ref (n + 13), .ref (n + 16), .null, .int 0])) (show (a : Nat) ≠ (n + 1) from Nat.ne_of_lt (Nat.lt_of_lt_of_le han (Nat.le_add_right n 1))) k584
  rw [← e_hh605] at k608
  have k609 := mj_sN (y := .inr (0, [.ref n, .ref (n + 2), .ref (n + 12), .ref (n + 13), .ref (n + 16), .null, .int 0])) (show (a : Nat) ≠ (n + 2) from Nat.ne_of_lt (Nat.lt_of_lt_of_le han (Nat.le_add_right n 2))) k585
  rw [← e_hh605] at k609
  have k610 := mj_sN (y := .inr (0, [.ref n, .ref (n + 2), .ref (n + 12), .ref (n + 13), .ref (n + 16), .null, .int 0])) (show (a : Nat) ≠ (n + 3) from Nat.ne_of_lt (Nat.lt_of_lt_of_le han (Nat.le_add_right n 3))) k586
  rw [← e_hh605] at k610
  have k611 := mj_sN (y := .inr (0, [.ref n, .ref (n + 2), .ref (n + 12), .ref (n + 13), .ref (n + 16), .null, .int 0])) (show (a : Nat) ≠ (n + 4) from Nat.ne_of_lt (Nat.lt_of_lt_of_le han (Nat.le_add_right n 4))) k587
  rw [← e_hh605] at k611
  have k612 := mj_sN (y := .inr (0, [.ref n, .ref (n + 2), .ref (n + 12), .ref (n + 13), .ref (n + 16), .null, .int 0])) (show (a : Nat) ≠ (n + 5) from Nat.ne_of_lt (Nat.lt_of_lt_of_le han (Nat.le_add_right n 5))) k588
  rw [← e_hh605] at k612
  have k613 := mj_sN (y := .inr (0, [.ref n, .ref (n + 2), .ref (n + 12), .ref (n + 13), .ref (n + 16), .null, .int 0])) (show (a : Nat) ≠ (n + 6) from Nat.ne_of_lt (Nat.lt_of_lt_of_le han (Nat.le_add_right n 6))) k589
  rw [← e_hh605] at k613
  have k614 := mj_sN (y := .inr (0, [.ref n, .ref (n + 2), .ref (n + 12), .ref (n + 13), .ref (n + 16), .null, .int 0])) (show (a : Nat) ≠ (n + 7) from Nat.ne_of_lt (Nat.lt_of_lt_of_le han (Nat.le_add_right n 7))) k590
  rw [← e_hh605] at k614
  have k615 := mj_sN (y := .inr (0, [.ref n, .ref (n + 2), .ref (n + 12), .ref (n + 13), .ref (n + 16), .null, .int 0])) (show (a : Nat) ≠ (n + 8) from Nat.ne_of_lt (Nat.lt_of_lt_of_le han (Nat.le_add_right n 8))) k591
  rw [← e_hh605] at k615
  have k616 := mj_sN (y := .inr (0, [.ref n, .ref (n + 2), .ref (n + 12), .ref (n + 13), .ref (n + 16), .null, .int 0])) (show (a : Nat) ≠ (n + 9) from Nat.ne_of_lt (Nat.lt_of_lt_of_le han (Nat.le_add_right n 9))) k592
  rw [← e_hh605] at k616
  have k617 := mj_sN (y := .inr (0, [.ref n, .ref (n + 2), .ref (n + 12), .ref (n + 13), .ref (n + 16), .null, .int 0])) (show (a : Nat) ≠ (n + 10) from Nat.ne_of_lt (Nat.lt_of_lt_of_le han (Nat.le_add_right n 10))) k593
  rw [← e_hh605] at k617
  have k618 := mj_sN (y := .inr (0, [.ref n, .ref (n + 2), .ref (n + 12), .ref (n + 13), .ref (n + 16), .null, .int 0])) (show (a : Nat) ≠ (n + 11) from Nat.ne_of_lt (Nat.lt_of_lt_of_le han (Nat.le_add_right n 11))) k594
  rw [← e_hh605] at k618
  have k619 := mj_sN (y := .inr (0, [.ref n, .ref (n + 2), .ref (n + 12), .ref (n + 13), .ref (n + 16), .null, .int 0])) (show (a : Nat) ≠ (n + 12) from Nat.ne_of_lt (Nat.lt_of_lt_of_le han (Nat.le_add_right n 12))) k595
  rw [← e_hh605] at k619
  have k620 := mj_sN (y := .inr (0, [.ref n, .ref (n + 2), .ref (n + 12), .ref (n + 13), .ref (n + 16), .null, .int 0])) (show (a : Nat) ≠ (n + 13) from Nat.ne_of_lt (Nat.lt_of_lt_of_le han (Nat.le_add_right n 13))) k596
  rw [← e_hh605] at k620
  have k621 := mj_sN (y := .inr (0, [.ref n, .ref (n + 2), .ref (n + 12), .ref (n + 13), .ref (n + 16), .null, .int 0])) (show (a : Nat) ≠ (n + 14) from Nat.ne_of_lt (Nat.lt_of_lt_of_le han (Nat.le_add_right n 14))) k597
  rw [← e_hh605] at k621
  have k622 := mj_sN (y := .inr (0, [.ref n, .ref (n + 2), .ref (n + 12), .ref (n + 13), .ref (n + 16), .null, .int 0])) (show (a : Nat) ≠ (n + 15) from Nat.ne_of_lt (Nat.lt_of_lt_of_le han (Nat.le_add_right n 15))) k598
  rw [← e_hh605] at k622
  have k623 := mj_sN (y := .inr (0, [.ref n, .ref (n + 2), .ref (n + 12), .ref (n + 13), .ref (n + 16), .null, .int 0])) (show (a : Nat) ≠ (n + 16) from Nat.ne_of_lt (Nat.lt_of_lt_of_le han (Nat.le_add_right n 16))) k599
  rw [← e_hh605] at k623
  have k624 := mj_sN (y := .inr (0, [.ref n, .ref (n + 2), .ref (n + 12), .ref (n + 13), .ref (n + 16), .null, .int 0])) (show (a : Nat) ≠ (n + 17) from Nat.ne_of_lt (Nat.lt_of_lt_of_le han (Nat.le_add_right n 17))) k600
  rw [← e_hh605] at k624
  have k625 := mj_sN (y := .inr (0, [.ref n, .ref (n + 2), .ref (n + 12), .ref (n + 13), .ref (n + 16), .null, .int 0])) (show (a : Nat) ≠ (n + 18) from Nat.ne_of_lt (Nat.lt_of_lt_of_le han (Nat.le_add_right n 18))) k601
  rw [← e_hh605] at k625
  have k626 := mj_sN (y := .inr (0, [.ref n, .ref (n + 2), .ref (n + 12), .ref (n + 13), .ref (n + 16), .null, .int 0])) (show (a : Nat) ≠ (n + 19) from Nat.ne_of_lt (Nat.lt_of_lt_of_le han (Nat.le_add_right n 19))) k602
  rw [← e_hh605] at k626
  have k627 := mj_sN (y := .inr (0, [.ref n, .ref (n + 2), .ref (n + 12), .ref (n + 13), .ref (n + 16), .null, .int 0])) (show (a : Nat) ≠ (n + 20) from Nat.ne_of_lt (Nat.lt_of_lt_of_le han (Nat.le_add_right n 20))) k603
  rw [← e_hh605] at k627
  have l628 : hh605.length = (n + 21) := by rw [e_hh605, List.length_set]; exact l604
  refine mj_aload_n d_RF_init_62 rfl ?_
  refine mj_new (kc := 4) (ks := 201) (fs := [.int 0, .int 0, .int 0, .null, .null, .null, .null]) ok_Pi cl_RF_39 ia_Pi in_Pi d_RF_init_63 nf_Pi (fun _ => rfl) ?_
  refine mj_ra l628 ?_
  obtain ⟨hh629, e_hh629⟩ : ∃ q_ : mj_H, q_ = hh605 ++ [.inr (4, [.int 0, .int 0, .int 0, .null, .null, .null, .null])] := ⟨_, rfl⟩
  refine mj_hp e_hh629 ?_
  have k630 := mj_al (t := [.inr (4, [.int 0, .int 0, .int 0, .null, .null, .null, .null])]) k606
  rw [← e_hh629] at k630
  have k631 := mj_al (t := [.inr (4, [.int 0, .int 0, .int 0, .null, .null, .null, .null])]) k607
  rw [← e_hh629] at k631
  have k632 := mj_al (t := [.inr (4, [.int 0, .int 0, .int 0, .null, .null, .null, .null])]) k608
  rw [← e_hh629] at k632
  have k633 := mj_al (t := [.inr (4, [.int 0, .int 0, .int 0, .null, .null, .null, .null])]) k609
  rw [← e_hh629] at k633
  have k634 := mj_al (t := [.inr (4, [.int 0, .int 0, .int 0, .null, .null, .null, .null])]) k610
  rw [← e_hh629] at k634
  have k635 := mj_al (t := [.inr (4, [.int 0, .int 0, .int 0, .null, .null, .null, .null])]) k611
  rw [← e_hh629] at k635
  have k636 := mj_al (t := [.inr (4, [.int 0, .int 0, .int 0, .null, .null, .null, .null])]) k612
  rw [← e_hh629] at k636
  have k637 := mj_al (t := [.inr (4, [.int 0, .int 0, .int 0, .null, .null, .null, .null])]) k613
  rw [← e_hh629] at k637
  have k638 := mj_al (t := [.inr (4, [.int 0, .int 0, .int 0, .null, .null, .null, .null])]) k614
  rw [← e_hh629] at k638
  have k639 := mj_al (t := [.inr (4, [.int 0, .int 0, .int 0, .null, .null, .null, .null])]) k615
  rw [← e_hh629] at k639
  have k640 := mj_al (t := [.inr (4, [.int 0, .int 0, .int 0, .null, .null, .null, .null])]) k616
  rw [← e_hh629] at k640
  have k641 := mj_al (t := [.inr (4, [.int 0, .int 0, .int 0, .null, .null, .null, .null])]) k617
  rw [← e_hh629] at k641
  have k642 := mj_al (t := [.inr (4, [.int 0, .int 0, .int 0, .null, .null, .null, .null])]) k618
  rw [← e_hh629] at k642
  have k643 := mj_al (t := [.inr (4, [.int 0, .int 0, .int 0, .null, .null, .null, .null])]) k619
  rw [← e_hh629] at k643
  have k644 := mj_al (t := [.inr (4, [.int 0, .int 0, .int 0, .null, .null, .null, .null])]) k620
  rw [← e_hh629] at k644
  have k645 := mj_al (t := [.inr (4, [.int 0, .int 0, .int 0, .null, .null, .null, .null])]) k621
  rw [← e_hh629] at k645
  have k646 := mj_al (t := [.inr (4, [.int 0, .int 0, .int 0, .null, .null, .null, .null])]) k622
  rw [← e_hh629] at k646
  have k647 := mj_al (t := [.inr (4, [.int 0, .int 0, .int 0, .null, .null, .null, .null])]) k623
  rw [← e_hh629] at k647
  have k648 := mj_al (t := [.inr (4, [.int 0, .int 0, .int 0, .null, .null, .null, .null])]) k624
  rw [← e_hh629] at k648
  have k649 := mj_al (t := [.inr (4, [.int 0, .int 0, .int 0, .null, .null, .null, .null])]) k625
  rw [← e_hh629] at k649
  have k650 := mj_al (t := [.inr (4, [.int 0, .int 0, .int 0, .null, .null, .null, .null])]) k626
  rw [← e_hh629] at k650
  have k651 := mj_al (t := [.inr (4, [.int 0, .int 0, .int 0, .null, .null, .null, .null])]) k627
  rw [← e_hh629] at k651
  have k652 := mj_ae (x := .inr (4, [.int 0, .int 0, .int 0, .null, .null, .null, .null])) l628
  rw [← e_hh629] at k652
  have l653 := mj_an (x := .inr (4, [.int 0, .int 0, .int 0, .null, .null, .null, .null])) l628
  rw [← e_hh629] at l653
  refine mj_dup d_RF_init_66 rfl ?_
  refine mj_cIN (kc := 0) (ks := 0) (S := [.ref (n + 21), .ref a]) (S1 := [.ref (n + 21), .ref a]) (c_Pi_init k652 l653) rfl rfl d_RF_init_67 cw_Pi_init mn_RF_41 im_Pi_init (by decide) rfl (Nat.le_of_ble_eq_true rfl) rfl rfl ?_
  obtain ⟨hh654, e_hh654⟩ : ∃ q_ : mj_H, q_ = hh629 ++ ([.inl (3, .inl (fun _ => 0))] : mj_H) := ⟨_, rfl⟩
  have k655 := mj_al (t := [.inl (3, .inl (fun _ => 0))]) k630
  rw [← e_hh654] at k655
  have k656 := mj_al (t := [.inl (3, .inl (fun _ => 0))]) k631
  rw [← e_hh654] at k656
  have k657 := mj_al (t := [.inl (3, .inl (fun _ => 0))]) k632
  rw [← e_hh654] at k657
  have k658 := mj_al (t := [.inl (3, .inl (fun _ => 0))]) k633
  rw [← e_hh654] at k658
  have k659 := mj_al (t := [.inl (3, .inl (fun _ => 0))]) k634
  rw [← e_hh654] at k659
  have k660 := mj_al (t := [.inl (3, .inl (fun _ => 0))]) k635
  rw [← e_hh654] at k660
  have k661 := mj_al (t := [.inl (3, .inl (fun _ => 0))]) k636
  rw [← e_hh654] at k661
  have k662 := mj_al (t := [.inl (3, .inl (fun _ => 0))]) k637
  rw [← e_hh654] at k662
  have k663 := mj_al (t := [.inl (3, .inl (fun _ => 0))]) k638
  rw [← e_hh654] at k663
  have k664 := mj_al (t := [.inl (3, .inl (fun _ => 0))]) k639
  rw [← e_hh654] at k664
  have k665 := mj_al (t := [.inl (3, .inl (fun _ => 0))]) k640
  rw [← e_hh654] at k665
  have k666 := mj_al (t := [.inl (3, .inl (fun _ => 0))]) k641
  rw [← e_hh654] at k666
  have k667 := mj_al (t := [.inl (3, .inl (fun _ => 0))]) k642
  rw [← e_hh654] at k667
  have k668 := mj_al (t := [.inl (3, .inl (fun _ => 0))]) k643
  rw [← e_hh654] at k668
  have k669 := mj_al (t := [.inl (3, .inl (fun _ => 0))]) k644
  rw [← e_hh654] at k669
  have k670 := mj_al (t := [.inl (3, .inl (fun _ => 0))]) k645
  rw [← e_hh654] at k670
  have k671 := mj_al (t := [.inl (3, .inl (fun _ => 0))]) k646
  rw [← e_hh654] at k671
  have k672 := mj_al (t := [.inl (3, .inl (fun _ => 0))]) k647
  rw [← e_hh654] at k672
  have k673 := mj_al (t := [.inl (3, .inl (fun _ => 0))]) k648
  rw [← e_hh654] at k673
  have k674 := mj_al (t := [.inl (3, .inl (fun _ => 0))]) k649
  rw [← e_hh654] at k674
  have k675 := mj_al (t := [.inl (3, .inl (fun _ => 0))]) k650
  rw [← e_hh654] at k675
  have k676 := mj_al (t := [.inl (3, .inl (fun _ => 0))]) k651
  rw [← e_hh654] at k676
  have k677 := mj_al (t := [.inl (3, .inl (fun _ => 0))]) k652
  rw [← e_hh654] at k677
  have k678 := mj_ae (x := .inl (3, .inl (fun _ => 0))) l653
  rw [← e_hh654] at k678
  have l679 := mj_an (x := .inl (3, .inl (fun _ => 0))) l653
  rw [← e_hh654] at l679
  obtain ⟨hh680, e_hh680⟩ : ∃ q_ : mj_H, q_ = hh654.set (n + 21) (.inr (4, [.int 0, .int 0, .int 0, .ref (n + 22), .null, .null, .null])) := ⟨_, rfl⟩
  have k681 := mj_sN (y := .inr (4, [.int 0, .int 0, .int 0, .ref (n + 22), .null, .null, .null])) (show ((n + 21) : Nat) ≠ a from (Nat.ne_of_lt (Nat.lt_of_lt_of_le han (Nat.le_add_right n 21))).symm) k655
  rw [← e_hh680] at k681
  have k682 := mj_sN (y := .inr (4, [.int 0, .int 0, .int 0, .ref (n + 22), .null, .null, .null])) (show ((n + 21) : Nat) ≠ n from fun h9 => absurd (Nat.add_left_cancel (show n + 21 = n + 0 from h9)) (by decide)) k656
  rw [← e_hh680] at k682
  have k683 := mj_sN (y := .inr (4, [.int 0, .int 0, .int 0, .ref (n + 22), .null, .null, .null])) (show ((n + 21) : Nat) ≠ (n + 1) from fun h9 => absurd (Nat.add_left_cancel (show n + 21 = n + 1 from h9)) (by decide)) k657
  rw [← e_hh680] at k683
  have k684 := mj_sN (y := .inr (4, [.int 0, .int 0, .int 0, .ref (n + 22), .null, .null, .null])) (show ((n + 21) : Nat) ≠ (n + 2) from fun h9 => absurd (Nat.add_left_cancel (show n + 21 = n + 2 from h9)) (by decide)) k658
  rw [← e_hh680] at k684
  have k685 := mj_sN (y := .inr (4, [.int 0, .int 0, .int 0, .ref (n + 22), .null, .null, .null])) (show ((n + 21) : Nat) ≠ (n + 3) from fun h9 => absurd (Nat.add_left_cancel (show n + 21 = n + 3 from h9)) (by decide)) k659
  rw [← e_hh680] at k685
  have k686 := mj_sN (y := .inr (4, [.int 0, .int 0, .int 0, .ref (n + 22), .null, .null, .null])) (show ((n + 21) : Nat) ≠ (n + 4) from fun h9 => absurd (Nat.add_left_cancel (show n + 21 = n + 4 from h9)) (by decide)) k660
  rw [← e_hh680] at k686
  have k687 := mj_sN (y := .inr (4, [.int 0, .int 0, .int 0, .ref (n + 22), .null, .null, .null])) (show ((n + 21) : Nat) ≠ (n + 5) from fun h9 => absurd (Nat.add_left_cancel (show n + 21 = n + 5 from h9)) (by decide)) k661
  rw [← e_hh680] at k687
  have k688 := mj_sN (y := .inr (4, [.int 0, .int 0, .int 0, .ref (n + 22), .null, .null, .null])) (show ((n + 21) : Nat) ≠ (n + 6) from fun h9 => absurd (Nat.add_left_cancel (show n + 21 = n + 6 from h9)) (by decide)) k662
  rw [← e_hh680] at k688
  have k689 := mj_sN (y := .inr (4, [.int 0, .int 0, .int 0, .ref (n + 22), .null, .null, .null])) (show ((n + 21) : Nat) ≠ (n + 7) from fun h9 => absurd (Nat.add_left_cancel (show n + 21 = n + 7 from h9)) (by decide)) k663
  rw [← e_hh680] at k689
  have k690 := mj_sN (y := .inr (4, [.int 0, .int 0, .int 0, .ref (n + 22), .null, .null, .null])) (show ((n + 21) : Nat) ≠ (n + 8) from fun h9 => absurd (Nat.add_left_cancel (show n + 21 = n + 8 from h9)) (by decide)) k664
  rw [← e_hh680] at k690
  have k691 := mj_sN (y := .inr (4, [.int 0, .int 0, .int 0, .ref (n + 22), .null, .null, .null])) (show ((n + 21) : Nat) ≠ (n + 9) from fun h9 => absurd (Nat.add_left_cancel (show n + 21 = n + 9 from h9)) (by decide)) k665
  rw [← e_hh680] at k691
  have k692 := mj_sN (y := .inr (4, [.int 0, .int 0, .int 0, .ref (n + 22), .null, .null, .null])) (show ((n + 21) : Nat) ≠ (n + 10) from fun h9 => absurd (Nat.add_left_cancel (show n + 21 = n + 10 from h9)) (by decide)) k666
  rw [← e_hh680] at k692
  have k693 := mj_sN (y := .inr (4, [.int 0, .int 0, .int 0, .ref (n + 22), .null, .null, .null])) (show ((n + 21) : Nat) ≠ (n + 11) from fun h9 => absurd (Nat.add_left_cancel (show n + 21 = n + 11 from h9)) (by decide)) k667
  rw [← e_hh680] at k693
  have k694 := mj_sN (y := .inr (4, [.int 0, .int 0, .int 0, .ref (n + 22), .null, .null, .null])) (show ((n + 21) : Nat) ≠ (n + 12) from fun h9 => absurd (Nat.add_left_cancel (show n + 21 = n + 12 from h9)) (by decide)) k668
  rw [← e_hh680] at k694
  have k695 := mj_sN (y := .inr (4, [.int 0, .int 0, .int 0, .ref (n + 22), .null, .null, .null])) (show ((n + 21) : Nat) ≠ (n + 13) from fun h9 => absurd (Nat.add_left_cancel (show n + 21 = n + 13 from h9)) (by decide)) k669
  rw [← e_hh680] at k695
  have k696 := mj_sN (y := .inr (4, [.int 0, .int 0, .int 0, .ref (n + 22), .null, .null, .null])) (show ((n + 21) : Nat) ≠ (n + 14) from fun h9 => absurd (Nat.add_left_cancel (show n + 21 = n + 14 from h9)) (by decide)) k670
  rw [← e_hh680] at k696
  have k697 := mj_sN (y := .inr (4, [.int 0, .int 0, .int 0, .ref (n + 22), .null, .null, .null])) (show ((n + 21) : Nat) ≠ (n + 15) from fun h9 => absurd (Nat.add_left_cancel (show n + 21 = n + 15 from h9)) (by decide)) k671
  rw [← e_hh680] at k697
  have k698 := mj_sN (y := .inr (4, [.int 0, .int 0, .int 0, .ref (n + 22), .null, .null, .null])) (show ((n + 21) : Nat) ≠ (n + 16) from fun h9 => absurd (Nat.add_left_cancel (show n + 21 = n + 16 from h9)) (by decide)) k672
  rw [← e_hh680] at k698
  have k699 := mj_sN (y := .inr (4, [.int 0, .int 0, .int 0, .ref (n + 22), .null, .null, .null])) (show ((n + 21) : Nat) ≠ (n + 17) from fun h9 => absurd (Nat.add_left_cancel (show n + 21 = n + 17 from h9)) (by decide)) k673
  rw [← e_hh680] at k699
  have k700 := mj_sN (y := .inr (4, [.int 0, .int 0, .int 0, .ref (n + 22), .null, .null, .null])) (show ((n + 21) : Nat) ≠ (n + 18) from fun h9 => absurd (Nat.add_left_cancel (show n + 21 = n + 18 from h9)) (by decide)) k674
  rw [← e_hh680] at k700
  have k701 := mj_sN (y := .inr (4, [.int 0, .int 0, .int 0, .ref (n + 22), .null, .null, .null])) (show ((n + 21) : Nat) ≠ (n + 19) from fun h9 => absurd (Nat.add_left_cancel (show n + 21 = n + 19 from h9)) (by decide)) k675
  rw [← e_hh680] at k701
  have k702 := mj_sN (y := .inr (4, [.int 0, .int 0, .int 0, .ref (n + 22), .null, .null, .null])) (show ((n + 21) : Nat) ≠ (n + 20) from fun h9 => absurd (Nat.add_left_cancel (show n + 21 = n + 20 from h9)) (by decide)) k676
  rw [← e_hh680] at k702
  have k703 : hh680[(n + 21)]? = some (.inr (4, [.int 0, .int 0, .int 0, .ref (n + 22), .null, .null, .null])) := by rw [e_hh680]; exact mj_sS k677
  have k704 := mj_sN (y := .inr (4, [.int 0, .int 0, .int 0, .ref (n + 22), .null, .null, .null])) (show ((n + 21) : Nat) ≠ (n + 22) from fun h9 => absurd (Nat.add_left_cancel (show n + 21 = n + 22 from h9)) (by decide)) k678
  rw [← e_hh680] at k704
  have l705 : hh680.length = (n + 23) := by rw [e_hh680, List.length_set]; exact l679
  obtain ⟨hh706, e_hh706⟩ : ∃ q_ : mj_H, q_ = hh680 ++ ([.inl (3, .inl (fun _ => 0))] : mj_H) := ⟨_, rfl⟩
  have k707 := mj_al (t := [.inl (3, .inl (fun _ => 0))]) k681
  rw [← e_hh706] at k707
  have k708 := mj_al (t := [.inl (3, .inl (fun _ => 0))]) k682
  rw [← e_hh706] at k708
  have k709 := mj_al (t := [.inl (3, .inl (fun _ => 0))]) k683
  rw [← e_hh706] at k709
  have k710 := mj_al (t := [.inl (3, .inl (fun _ => 0))]) k684
  rw [← e_hh706] at k710
  have k711 := mj_al (t := [.inl (3, .inl (fun _ => 0))]) k685
  rw [← e_hh706] at k711
  have k712 := mj_al (t := [.inl (3, .inl (fun _ => 0))]) k686
  rw [← e_hh706] at k712
  have k713 := mj_al (t := [.inl (3, .inl (fun _ => 0))]) k687
  rw [← e_hh706] at k713
  have k714 := mj_al (t := [.inl (3, .inl (fun _ => 0))]) k688
  rw [← e_hh706] at k714
  have k715 := mj_al (t := [.inl (3, .inl (fun _ => 0))]) k689
  rw [← e_hh706] at k715
  have k716 := mj_al (t := [.inl (3, .inl (fun _ => 0))]) k690
  rw [← e_hh706] at k716
  have k717 := mj_al (t := [.inl (3, .inl (fun _ => 0))]) k691
  rw [← e_hh706] at k717
  have k718 := mj_al (t := [.inl (3, .inl (fun _ => 0))]) k692
  rw [← e_hh706] at k718
  have k719 := mj_al (t := [.inl (3, .inl (fun _ => 0))]) k693
  rw [← e_hh706] at k719
  have k720 := mj_al (t := [.inl (3, .inl (fun _ => 0))]) k694
  rw [← e_hh706] at k720
  have k721 := mj_al (t := [.inl (3, .inl (fun _ => 0))]) k695
  rw [← e_hh706] at k721
  have k722 := mj_al (t := [.inl (3, .inl (fun _ => 0))]) k696
  rw [← e_hh706] at k722
  have k723 := mj_al (t := [.inl (3, .inl (fun _ => 0))]) k697
  rw [← e_hh706] at k723
  have k724 := mj_al (t := [.inl (3, .inl (fun _ => 0))]) k698
  rw [← e_hh706] at k724
  have k725 := mj_al (t := [.inl (3, .inl (fun _ => 0))]) k699
  rw [← e_hh706] at k725
  have k726 := mj_al (t := [.inl (3, .inl (fun _ => 0))]) k700
  rw [← e_hh706] at k726
  have k727 := mj_al (t := [.inl (3, .inl (fun _ => 0))]) k701
  rw [← e_hh706] at k727
  have k728 := mj_al (t := [.inl (3, .inl (fun _ => 0))]) k702
  rw [← e_hh706] at k728
  have k729 := mj_al (t := [.inl (3, .inl (fun _ => 0))]) k703
  rw [← e_hh706] at k729
  have k730 := mj_al (t := [.inl (3, .inl (fun _ => 0))]) k704
  rw [← e_hh706] at k730
  have k731 := mj_ae (x := .inl (3, .inl (fun _ => 0))) l705
  rw [← e_hh706] at k731
  have l732 := mj_an (x := .inl (3, .inl (fun _ => 0))) l705
  rw [← e_hh706] at l732
  obtain ⟨hh733, e_hh733⟩ : ∃ q_ : mj_H, q_ = hh706.set (n + 21) (.inr (4, [.int 0, .int 0, .int 0, .ref (n + 22), .ref (n + 23), .null, .null])) := ⟨_, rfl⟩
  have k734 := mj_sN (y := .inr (4, [.int 0, .int 0, .int 0, .ref (n + 22), .ref (n + 23), .null, .null])) (show ((n + 21) : Nat) ≠ a from (Nat.ne_of_lt (Nat.lt_of_lt_of_le han (Nat.le_add_right n 21))).symm) k707
  rw [← e_hh733] at k734
  have k735 := mj_sN (y := .inr (4, [.int 0, .int 0, .int 0, .ref (n + 22), .ref (n + 23), .null, .null])) (show ((n + 21) : Nat) ≠ n from fun h9 => absurd (Nat.add_left_cancel (show n + 21 = n + 0 from h9)) (by decide)) k708
  rw [← e_hh733] at k735
  have k736 := mj_sN (y := .inr (4, [.int 0, .int 0, .int 0, .ref (n + 22), .ref (n + 23), .null, .null])) (show ((n + 21) : Nat) ≠ (n + 1) from fun h9 => absurd (Nat.add_left_cancel (show n + 21 = n + 1 from h9)) (by decide)) k709
  rw [← e_hh733] at k736
  have k737 := mj_sN (y := .inr (4, [.int 0, .int 0, .int 0, .ref (n + 22), .ref (n + 23), .null, .null])) (show ((n + 21) : Nat) ≠ (n + 2) from fun h9 => absurd (Nat.add_left_cancel (show n + 21 = n + 2 from h9)) (by decide)) k710
  rw [← e_hh733] at k737
  have k738 := mj_sN (y := .inr (4, [.int 0, .int 0, .int 0, .ref (n + 22), .ref (n + 23), .null, .null])) (show ((n + 21) : Nat) ≠ (n + 3) from fun h9 => absurd (Nat.add_left_cancel (show n + 21 = n + 3 from h9)) (by decide)) k711
  rw [← e_hh733] at k738
  have k739 := mj_sN (y := .inr (4, [.int 0, .int 0, .int 0, .ref (n + 22), .ref (n + 23), .null, .null])) (show ((n + 21) : Nat) ≠ (n + 4) from fun h9 => absurd (Nat.add_left_cancel (show n + 21 = n + 4 from h9)) (by decide)) k712
  rw [← e_hh733] at k739
  have k740 := mj_sN (y := .inr (4, [.int 0, .int 0, .int 0, .ref (n + 22), .ref (n + 23), .null, .null])) (show ((n + 21) : Nat) ≠ (n + 5) from fun h9 => absurd (Nat.add_left_cancel (show n + 21 = n + 5 from h9)) (by decide)) k713
  rw [← e_hh733] at k740
  have k741 := mj_sN (y := .inr (4, [.int 0, .int 0, .int 0, .ref (n + 22), .ref (n + 23), .null, .null])) (show ((n + 21) : Nat) ≠ (n + 6) from fun h9 => absurd (Nat.add_left_cancel (show n + 21 = n + 6 from h9)) (by decide)) k714
  rw [← e_hh733] at k741
  have k742 := mj_sN (y := .inr (4, [.int 0, .int 0, .int 0, .ref (n + 22), .ref (n + 23), .null, .null])) (show ((n + 21) : Nat) ≠ (n + 7) from fun h9 => absurd (Nat.add_left_cancel (show n + 21 = n + 7 from h9)) (by decide)) k715
  rw [← e_hh733] at k742
  have k743 := mj_sN (y := .inr (4, [.int 0, .int 0, .int 0, .ref (n + 22), .ref (n + 23), .null, .null])) (show ((n + 21) : Nat) ≠ (n + 8) from fun h9 => absurd (Nat.add_left_cancel (show n + 21 = n + 8 from h9)) (by decide)) k716
  rw [← e_hh733] at k743
  have k744 := mj_sN (y := .inr (4, [.int 0, .int 0, .int 0, .ref (n + 22), .ref (n + 23), .null, .null])) (show ((n + 21) : Nat) ≠ (n + 9) from fun h9 => absurd (Nat.add_left_cancel (show n + 21 = n + 9 from h9)) (by decide)) k717
  rw [← e_hh733] at k744
  have k745 := mj_sN (y := .inr (4, [.int 0, .int 0, .int 0, .ref (n + 22), .ref (n + 23), .null, .null])) (show ((n + 21) : Nat) ≠ (n + 10) from fun h9 => absurd (Nat.add_left_cancel (show n + 21 = n + 10 from h9)) (by decide)) k718
  rw [← e_hh733] at k745
  have k746 := mj_sN (y := .inr (4, [.int 0, .int 0, .int 0, .ref (n + 22), .ref (n + 23), .null, .null])) (show ((n + 21) : Nat) ≠ (n + 11) from fun h9 => absurd (Nat.add_left_cancel (show n + 21 = n + 11 from h9)) (by decide)) k719
  rw [← e_hh733] at k746
  have k747 := mj_sN (y := .inr (4, [.int 0, .int 0, .int 0, .ref (n + 22), .ref (n + 23), .null, .null])) (show ((n + 21) : Nat) ≠ (n + 12) from fun h9 => absurd (Nat.add_left_cancel (show n + 21 = n + 12 from h9)) (by decide)) k720
  rw [← e_hh733] at k747
  have k748 := mj_sN (y := .inr (4, [.int 0, .int 0, .int 0, .ref (n + 22), .ref (n + 23), .null, .null])) (show ((n + 21) : Nat) ≠ (n + 13) from fun h9 => absurd (Nat.add_left_cancel (show n + 21 = n + 13 from h9)) (by decide)) k721
  rw [← e_hh733] at k748
  have k749 := mj_sN (y := .inr (4, [.int 0, .int 0, .int 0, .ref (n + 22), .ref (n + 23), .null, .null])) (show ((n + 21) : Nat) ≠ (n + 14) from fun h9 => absurd (Nat.add_left_cancel (show n + 21 = n + 14 from h9)) (by decide)) k722
  rw [← e_hh733] at k749
  have k750 := mj_sN (y := .inr (4, [.int 0, .int 0, .int 0, .ref (n + 22), .ref (n + 23), .null, .null])) (show ((n + 21) : Nat) ≠ (n + 15) from fun h9 => absurd (Nat.add_left_cancel (show n + 21 = n + 15 from h9)) (by decide)) k723
  rw [← e_hh733] at k750
  have k751 := mj_sN (y := .inr (4, [.int 0, .int 0, .int 0, .ref (n + 22), .ref (n + 23), .null, .null])) (show ((n + 21) : Nat) ≠ (n + 16) from fun h9 => absurd (Nat.add_left_cancel (show n + 21 = n + 16 from h9)) (by decide)) k724
  rw [← e_hh733] at k751
  have k752 := mj_sN (y := .inr (4, [.int 0, .int 0, .int 0, .ref (n + 22), .ref (n + 23), .null, .null])) (show ((n + 21) : Nat) ≠ (n + 17) from fun h9 => absurd (Nat.add_left_cancel (show n + 21 = n + 17 from h9)) (by decide)) k725
  rw [← e_hh733] at k752
  have k753 := mj_sN (y := .inr (4, [.int 0, .int 0, .int 0, .ref (n + 22), .ref (n + 23), .null, .null])) (show ((n + 21) : Nat) ≠ (n + 18) from fun h9 => absurd (Nat.add_left_cancel (show n + 21 = n + 18 from h9)) (by decide)) k726
  rw [← e_hh733] at k753
  have k754 := mj_sN (y := .inr (4, [.int 0, .int 0, .int 0, .ref (n + 22), .ref (n + 23), .null, .null])) (show ((n + 21) : Nat) ≠ (n + 19) from fun h9 => absurd (Nat.add_left_cancel (show n + 21 = n + 19 from h9)) (by decide)) k727
  rw [← e_hh733] at k754
  have k755 := mj_sN (y := .inr (4, [.int 0, .int 0, .int 0, .ref (n + 22), .ref (n + 23), .null, .null])) (show ((n + 21) : Nat) ≠ (n + 20) from fun h9 => absurd (Nat.add_left_cancel (show n + 21 = n + 20 from h9)) (by decide)) k728
  rw [← e_hh733] at k755
  have k756 : hh733[(n + 21)]? = some (.inr (4, [.int 0, .int 0, .int 0, .ref (n + 22), .ref (n + 23), .null, .null])) := by rw [e_hh733]; exact mj_sS k729
  have k757 := mj_sN (y := .inr (4, [.int 0, .int 0, .int 0, .ref (n + 22), .ref (n + 23), .null, .null])) (show ((n + 21) : Nat) ≠ (n + 22) from fun h9 => absurd (Nat.add_left_cancel (show n + 21 = n + 22 from h9)) (by decide)) k730
  rw [← e_hh733] at k757
  have k758 := mj_sN (y := .inr (4, [.int 0, .int 0, .int 0, .ref (n + 22), .ref (n + 23), .null, .null])) (show ((n + 21) : Nat) ≠ (n + 23) from fun h9 => absurd (Nat.add_left_cancel (show n + 21 = n + 23 from h9)) (by decide)) k731
  rw [← e_hh733] at k758
  have l759 : hh733.length = (n + 24) := by rw [e_hh733, List.length_set]; exact l732
  obtain ⟨hh760, e_hh760⟩ : ∃ q_ : mj_H, q_ = hh733 ++ ([.inl (3, .inl (fun _ => 0))] : mj_H) := ⟨_, rfl⟩
  have k761 := mj_al (t := [.inl (3, .inl (fun _ => 0))]) k734
  rw [← e_hh760] at k761
  have k762 := mj_al (t := [.inl (3, .inl (fun _ => 0))]) k735
  rw [← e_hh760] at k762
  have k763 := mj_al (t := [.inl (3, .inl (fun _ => 0))]) k736
  rw [← e_hh760] at k763
  have k764 := mj_al (t := [.inl (3, .inl (fun _ => 0))]) k737
  rw [← e_hh760] at k764
  have k765 := mj_al (t := [.inl (3, .inl (fun _ => 0))]) k738
  rw [← e_hh760] at k765
  have k766 := mj_al (t := [.inl (3, .inl (fun _ => 0))]) k739
  rw [← e_hh760] at k766
  have k767 := mj_al (t := [.inl (3, .inl (fun _ => 0))]) k740
  rw [← e_hh760] at k767
  have k768 := mj_al (t := [.inl (3, .inl (fun _ => 0))]) k741
  rw [← e_hh760] at k768
  have k769 := mj_al (t := [.inl (3, .inl (fun _ => 0))]) k742
  rw [← e_hh760] at k769
  have k770 := mj_al (t := [.inl (3, .inl (fun _ => 0))]) k743
  rw [← e_hh760] at k770
  have k771 := mj_al (t := [.inl (3, .inl (fun _ => 0))]) k744
  rw [← e_hh760] at k771
  have k772 := mj_al (t := [.inl (3, .inl (fun _ => 0))]) k745
  rw [← e_hh760] at k772
  have k773 := mj_al (t := [.inl (3, .inl (fun _ => 0))]) k746
  rw [← e_hh760] at k773
  have k774 := mj_al (t := [.inl (3, .inl (fun _ => 0))]) k747
  rw [← e_hh760] at k774
  have k775 := mj_al (t := [.inl (3, .inl (fun _ => 0))]) k748
  rw [← e_hh760] at k775
  have k776 := mj_al (t := [.inl (3, .inl (fun _ => 0))]) k749
  rw [← e_hh760] at k776
  have k777 := mj_al (t := [.inl (3, .inl (fun _ => 0))]) k750
  rw [← e_hh760] at k777
  have k778 := mj_al (t := [.inl (3, .inl (fun _ => 0))]) k751
  rw [← e_hh760] at k778
  have k779 := mj_al (t := [.inl (3, .inl (fun _ => 0))]) k752
  rw [← e_hh760] at k779
  have k780 := mj_al (t := [.inl (3, .inl (fun _ => 0))]) k753
  rw [← e_hh760] at k780
  have k781 := mj_al (t := [.inl (3, .inl (fun _ => 0))]) k754
  rw [← e_hh760] at k781
  have k782 := mj_al (t := [.inl (3, .inl (fun _ => 0))]) k755
  rw [← e_hh760] at k782
  have k783 := mj_al (t := [.inl (3, .inl (fun _ => 0))]) k756
  rw [← e_hh760] at k783
  have k784 := mj_al (t := [.inl (3, .inl (fun _ => 0))]) k757
  rw [← e_hh760] at k784
  have k785 := mj_al (t := [.inl (3, .inl (fun _ => 0))]) k758
  rw [← e_hh760] at k785
  have k786 := mj_ae (x := .inl (3, .inl (fun _ => 0))) l759
  rw [← e_hh760] at k786
  have l787 := mj_an (x := .inl (3, .inl (fun _ => 0))) l759
  rw [← e_hh760] at l787
  obtain ⟨hh788, e_hh788⟩ : ∃ q_ : mj_H, q_ = hh760.set (n + 21) (.inr (4, [.int 0, .int 0, .int 0, .ref (n + 22), .ref (n + 23), .ref (n + 24), .null])) := ⟨_, rfl⟩
  have k789 := mj_sN (y := .inr (4, [.int 0, .int 0, .int 0, .ref (n + 22), .ref (n + 23), .ref (n + 24), .null])) (show ((n + 21) : Nat) ≠ a from (Nat.ne_of_lt (Nat.lt_of_lt_of_le han (Nat.le_add_right n 21))).symm) k761
  rw [← e_hh788] at k789
  have k790 := mj_sN (y := .inr (4, [.int 0, .int 0, .int 0, .ref (n + 22), .ref (n + 23), .ref (n + 24), .null])) (show ((n + 21) : Nat) ≠ n from fun h9 => absurd (Nat.add_left_cancel (show n + 21 = n + 0 from h9)) (by decide)) k762
  rw [← e_hh788] at k790
  have k791 := mj_sN (y := .inr (4, [.int 0, .int 0, .int 0, .ref (n + 22), .ref (n + 23), .ref (n + 24), .null])) (show ((n + 21) : Nat) ≠ (n + 1) from fun h9 => absurd (Nat.add_left_cancel (show n + 21 = n + 1 from h9)) (by decide)) k763
  rw [← e_hh788] at k791
  have k792 := mj_sN (y := .inr (4, [.int 0, .int 0, .int 0, .ref (n + 22), .ref (n + 23), .ref (n + 24), .null])) (show ((n + 21) : Nat) ≠ (n + 2) from fun h9 => absurd (Nat.add_left_cancel (show n + 21 = n + 2 from h9)) (by decide)) k764
  rw [← e_hh788] at k792
  have k793 := mj_sN (y := .inr (4, [.int 0, .int 0, .int 0, .ref (n + 22), .ref (n + 23), .ref (n + 24), .null])) (show ((n + 21) : Nat) ≠ (n + 3) from fun h9 => absurd (Nat.add_left_cancel (show n + 21 = n + 3 from h9)) (by decide)) k765
  rw [← e_hh788] at k793
  have k794 := mj_sN (y := .inr (4, [.int 0, .int 0, .int 0, .ref (n + 22), .ref (n + 23), .ref (n + 24), .null])) (show ((n + 21) : Nat) ≠ (n + 4) from fun h9 => absurd (Nat.add_left_cancel (show n + 21 = n + 4 from h9)) (by decide)) k766
  rw [← e_hh788] at k794
  have k795 := mj_sN (y := .inr (4, [.int 0, .int 0, .int 0, .ref (n + 22), .ref (n + 23), .ref (n + 24), .null])) (show ((n + 21) : Nat) ≠ (n + 5) from fun h9 => absurd (Nat.add_left_cancel (show n + 21 = n + 5 from h9)) (by decide)) k767
  rw [← e_hh788] at k795
  have k796 := mj_sN (y := .inr (4, [.int 0, .int 0, .int 0, .ref (n + 22), .ref (n + 23), .ref (n + 24), .null])) (show ((n + 21) : Nat) ≠ (n + 6) from fun h9 => absurd (Nat.add_left_cancel (show n + 21 = n + 6 from h9)) (by decide)) k768
  rw [← e_hh788] at k796
  have k797 := mj_sN (y := .inr (4, [.int 0, .int 0, .int 0, .ref (n + 22), .ref (n + 23), .ref (n + 24), .null])) (show ((n + 21) : Nat) ≠ (n + 7) from fun h9 => absurd (Nat.add_left_cancel (show n + 21 = n + 7 from h9)) (by decide)) k769
  rw [← e_hh788] at k797
  have k798 := mj_sN (y := .inr (4, [.int 0, .int 0, .int 0, .ref (n + 22), .ref (n + 23), .ref (n + 24), .null])) (show ((n + 21) : Nat) ≠ (n + 8) from fun h9 => absurd (Nat.add_left_cancel (show n + 21 = n + 8 from h9)) (by decide)) k770
  rw [← e_hh788] at k798
  have k799 := mj_sN (y := .inr (4, [.int 0, .int 0, .int 0, .ref (n + 22), .ref (n + 23), .ref (n + 24), .null])) (show ((n + 21) : Nat) ≠ (n + 9) from fun h9 => absurd (Nat.add_left_cancel (show n + 21 = n + 9 from h9)) (by decide)) k771
  rw [← e_hh788] at k799
  have k800 := mj_sN (y := .inr (4, [.int 0, .int 0, .int 0, .ref (n + 22), .ref (n + 23), .ref (n + 24), .null])) (show ((n + 21) : Nat) ≠ (n + 10) from fun h9 => absurd (Nat.add_left_cancel (show n + 21 = n + 10 from h9)) (by decide)) k772
  rw [← e_hh788] at k800
  have k801 := mj_sN (y := .inr (4, [.int 0, .int 0, .int 0, .ref (n + 22), .ref (n + 23), .ref (n + 24), .null])) (show ((n + 21) : Nat) ≠ (n + 11) from fun h9 => absurd (Nat.add_left_cancel (show n + 21 = n + 11 from h9)) (by decide)) k773
  rw [← e_hh788] at k801
  have k802 := mj_sN (y := .inr (4, [.int 0, .int 0, .int 0, .ref (n + 22), .ref (n + 23), .ref (n + 24), .null])) (show ((n + 21) : Nat) ≠ (n + 12) from fun h9 => absurd (Nat.add_left_cancel (show n + 21 = n + 12 from h9)) (by decide)) k774
  rw [← e_hh788] at k802
  have k803 := mj_sN (y := .inr (4, [.int 0, .int 0, .int 0, .ref (n + 22), .ref (n + 23), .ref (n + 24), .null])) (show ((n + 21) : Nat) ≠ (n + 13) from fun h9 => absurd (Nat.add_left_cancel (show n + 21 = n + 13 from h9)) (by decide)) k775
  rw [← e_hh788] at k803
  have k804 := mj_sN (y := .inr (4, [.int 0, .int 0, .int 0, .ref (n + 22), .ref (n + 23), .ref (n + 24), .null])) (show ((n + 21) : Nat) ≠ (n + 14) from fun h9 => absurd (Nat.add_left_cancel (show n + 21 = n + 14 from h9)) (by decide)) k776
  rw [← e_hh788] at k804
  have k805 := mj_sN (y := .inr (4, [.int 0, .int 0, .int 0, .ref (n + 22), .ref (n + 23), .ref (n + 24), .null])) (show ((n + 21) : Nat) ≠ (n + 15) from fun h9 => absurd (Nat.add_left_cancel (show n + 21 = n + 15 from h9)) (by decide)) k777
  rw [← e_hh788] at k805
  have k806 := mj_sN (y := .inr (4, [.int 0, .int 0, .int 0, .ref (n + 22), .ref (n + 23), .ref (n + 24), .null])) (show ((n + 21) : Nat) ≠ (n + 16) from fun h9 => absurd (Nat.add_left_cancel (show n + 21 = n + 16 from h9)) (by decide)) k778
  rw [← e_hh788] at k806
  have k807 := mj_sN (y := .inr (4, [.int 0, .int 0, .int 0, .ref (n + 22), .ref (n + 23), .ref (n + 24), .null])) (show ((n + 21) : Nat) ≠ (n + 17) from fun h9 => absurd (Nat.add_left_cancel (show n + 21 = n + 17 from h9)) (by decide)) k779
  rw [← e_hh788] at k807
  have k808 := mj_sN (y := .inr (4, [.int 0, .int 0, .int 0, .ref (n + 22), .ref (n + 23), .ref (n + 24), .null])) (show ((n + 21) : Nat) ≠ (n + 18) from fun h9 => absurd (Nat.add_left_cancel (show n + 21 = n + 18 from h9)) (by decide)) k780
  rw [← e_hh788] at k808
  have k809 := mj_sN (y := .inr (4, [.int 0, .int 0, .int 0, .ref (n + 22), .ref (n + 23), .ref (n + 24), .null])) (show ((n + 21) : Nat) ≠ (n + 19) from fun h9 => absurd (Nat.add_left_cancel (show n + 21 = n + 19 from h9)) (by decide)) k781
  rw [← e_hh788] at k809
  have k810 := mj_sN (y := .inr (4, [.int 0, .int 0, .int 0, .ref (n + 22), .ref (n + 23), .ref (n + 24), .null])) (show ((n + 21) : Nat) ≠ (n + 20) from fun h9 => absurd (Nat.add_left_cancel (show n + 21 = n + 20 from h9)) (by decide)) k782
  rw [← e_hh788] at k810
  have k811 : hh788[(n + 21)]? = some (.inr (4, [.int 0, .int 0, .int 0, .ref (n + 22), .ref (n + 23), .ref (n + 24), .null])) := by rw [e_hh788]; exact mj_sS k783
  have k812 := mj_sN (y := .inr (4, [.int 0, .int 0, .int 0, .ref (n + 22), .ref (n + 23), .ref (n + 24), .null])) (show ((n + 21) : Nat) ≠ (n + 22) from fun h9 => absurd (Nat.add_left_cancel (show n + 21 = n + 22 from h9)) (by decide)) k784
  rw [← e_hh788] at k812
  have k813 := mj_sN (y := .inr (4, [.int 0, .int 0, .int 0, .ref (n + 22), .ref (n + 23), .ref (n + 24), .null])) (show ((n + 21) : Nat) ≠ (n + 23) from fun h9 => absurd (Nat.add_left_cancel (show n + 21 = n + 23 from h9)) (by decide)) k785
  rw [← e_hh788] at k813
  have k814 := mj_sN (y := .inr (4, [.int 0, .int 0, .int 0, .ref (n + 22), .ref (n + 23), .ref (n + 24), .null])) (show ((n + 21) : Nat) ≠ (n + 24) from fun h9 => absurd (Nat.add_left_cancel (show n + 21 = n + 24 from h9)) (by decide)) k786
  rw [← e_hh788] at k814
  have l815 : hh788.length = (n + 25) := by rw [e_hh788, List.length_set]; exact l787
  obtain ⟨hh816, e_hh816⟩ : ∃ q_ : mj_H, q_ = hh788 ++ ([.inl (192, .inl (fun _ => 0))] : mj_H) := ⟨_, rfl⟩
  have k817 := mj_al (t := [.inl (192, .inl (fun _ => 0))]) k789
  rw [← e_hh816] at k817
  have k818 := mj_al (t := [.inl (192, .inl (fun _ => 0))]) k790
  rw [← e_hh816] at k818
  have k819 := mj_al (t := [.inl (192, .inl (fun _ => 0))]) k791
  rw [← e_hh816] at k819
  have k820 := mj_al (t := [.inl (192, .inl (fun _ => 0))]) k792
  rw [← e_hh816] at k820
  have k821 := mj_al (t := [.inl (192, .inl (fun _ => 0))]) k793
  rw [← e_hh816] at k821
  have k822 := mj_al (t := [.inl (192, .inl (fun _ => 0))]) k794
  rw [← e_hh816] at k822
  have k823 := mj_al (t := [.inl (192, .inl (fun _ => 0))]) k795
  rw [← e_hh816] at k823
  have k824 := mj_al (t := [.inl (192, .inl (fun _ => 0))]) k796
  rw [← e_hh816] at k824
  have k825 := mj_al (t := [.inl (192, .inl (fun _ => 0))]) k797
  rw [← e_hh816] at k825
  have k826 := mj_al (t := [.inl (192, .inl (fun _ => 0))]) k798
  rw [← e_hh816] at k826
  have k827 := mj_al (t := [.inl (192, .inl (fun _ => 0))]) k799
  rw [← e_hh816] at k827
  have k828 := mj_al (t := [.inl (192, .inl (fun _ => 0))]) k800
  rw [← e_hh816] at k828
  have k829 := mj_al (t := [.inl (192, .inl (fun _ => 0))]) k801
  rw [← e_hh816] at k829
  have k830 := mj_al (t := [.inl (192, .inl (fun _ => 0))]) k802
  rw [← e_hh816] at k830
  have k831 := mj_al (t := [.inl (192, .inl (fun _ => 0))]) k803
  rw [← e_hh816] at k831
  have k832 := mj_al (t := [.inl (192, .inl (fun _ => 0))]) k804
  rw [← e_hh816] at k832
  have k833 := mj_al (t := [.inl (192, .inl (fun _ => 0))]) k805
  rw [← e_hh816] at k833
  have k834 := mj_al (t := [.inl (192, .inl (fun _ => 0))]) k806
  rw [← e_hh816] at k834
  have k835 := mj_al (t := [.inl (192, .inl (fun _ => 0))]) k807
  rw [← e_hh816] at k835
  have k836 := mj_al (t := [.inl (192, .inl (fun _ => 0))]) k808
  rw [← e_hh816] at k836
  have k837 := mj_al (t := [.inl (192, .inl (fun _ => 0))]) k809
  rw [← e_hh816] at k837
  have k838 := mj_al (t := [.inl (192, .inl (fun _ => 0))]) k810
  rw [← e_hh816] at k838
  have k839 := mj_al (t := [.inl (192, .inl (fun _ => 0))]) k811
  rw [← e_hh816] at k839
  have k840 := mj_al (t := [.inl (192, .inl (fun _ => 0))]) k812
  rw [← e_hh816] at k840
  have k841 := mj_al (t := [.inl (192, .inl (fun _ => 0))]) k813
  rw [← e_hh816] at k841
  have k842 := mj_al (t := [.inl (192, .inl (fun _ => 0))]) k814
  rw [← e_hh816] at k842
  have k843 := mj_ae (x := .inl (192, .inl (fun _ => 0))) l815
  rw [← e_hh816] at k843
  have l844 := mj_an (x := .inl (192, .inl (fun _ => 0))) l815
  rw [← e_hh816] at l844
  obtain ⟨hh845, e_hh845⟩ : ∃ q_ : mj_H, q_ = hh816.set (n + 21) (.inr (4, [.int 0, .int 0, .int 0, .ref (n + 22), .ref (n + 23), .ref (n + 24), .ref (n + 25)])) := ⟨_, rfl⟩
  have k846 := mj_sN (y := .inr (4, [.int 0, .int 0, .int 0, .ref (n + 22), .ref (n + 23), .ref (n + 24), .ref (n + 25)])) (show ((n + 21) : Nat) ≠ a from (Nat.ne_of_lt (Nat.lt_of_lt_of_le han (Nat.le_add_right n 21))).symm) k817
  rw [← e_hh845] at k846
  have k847 := mj_sN (y := .inr (4, [.int 0, .int 0, .int 0, .ref (n + 22), .ref (n + 23), .ref (n + 24), .ref (n + 25)])) (show ((n + 21) : Nat) ≠ n from fun h9 => absurd (Nat.add_left_cancel (show n + 21 = n + 0 from h9)) (by decide)) k818
  rw [← e_hh845] at k847
  have k848 := mj_sN (y := .inr (4, [.int 0, .int 0, .int 0, .ref (n + 22), .ref (n + 23), .ref (n + 24), .ref (n + 25)])) (show ((n + 21) : Nat) ≠ (n + 1) from fun h9 => absurd (Nat.add_left_cancel (show n + 21 = n + 1 from h9)) (by decide)) k819
  rw [← e_hh845] at k848
  have k849 := mj_sN (y := .inr (4, [.int 0, .int 0, .int 0, .ref (n + 22), .ref (n + 23), .ref (n + 24), .ref (n + 25)])) (show ((n + 21) : Nat) ≠ (n + 2) from fun h9 => absurd (Nat.add_left_cancel (show n + 21 = n + 2 from h9)) (by decide)) k820
  rw [← e_hh845] at k849
  have k850 := mj_sN (y := .inr (4, [.int 0, .int 0, .int 0, .ref (n + 22), .ref (n + 23), .ref (n + 24), .ref (n + 25)])) (show ((n + 21) : Nat) ≠ (n + 3) from fun h9 => absurd (Nat.add_left_cancel (show n + 21 = n + 3 from h9)) (by decide)) k821
  rw [← e_hh845] at k850
  have k851 := mj_sN (y := .inr (4, [.int 0, .int 0, .int 0, .ref (n + 22), .ref (n + 23), .ref (n + 24), .ref (n + 25)])) (show ((n + 21) : Nat) ≠ (n + 4) from fun h9 => absurd (Nat.add_left_cancel (show n + 21 = n + 4 from h9)) (by decide)) k822
  rw [← e_hh845] at k851
  have k852 := mj_sN (y := .inr (4, [.int 0, .int 0, .int 0, .ref (n + 22), .ref (n + 23), .ref (n + 24), .ref (n + 25)])) (show ((n + 21) : Nat) ≠ (n + 5) from fun h9 => absurd (Nat.add_left_cancel (show n + 21 = n + 5 from h9)) (by decide)) k823
  rw [← e_hh845] at k852
  have k853 := mj_sN (y := .inr (4, [.int 0, .int 0, .int 0, .ref (n + 22), .ref (n + 23), .ref (n + 24), .ref (n + 25)])) (show ((n + 21) : Nat) ≠ (n + 6) from fun h9 => absurd (Nat.add_left_cancel (show n + 21 = n + 6 from h9)) (by decide)) k824
  rw [← e_hh845] at k853
  have k854 := mj_sN (y := .inr (4, [.int 0, .int 0, .int 0, .ref (n + 22), .ref (n + 23), .ref (n + 24), .ref (n + 25)])) (show ((n + 21) : Nat) ≠ (n + 7) from fun h9 => absurd (Nat.add_left_cancel (show n + 21 = n + 7 from h9)) (by decide)) k825
  rw [← e_hh845] at k854
  have k855 := mj_sN (y := .inr (4, [.int 0, .int 0, .int 0, .ref (n + 22), .ref (n + 23), .ref (n + 24), .ref (n + 25)])) (show ((n + 21) : Nat) ≠ (n + 8) from fun h9 => absurd (Nat.add_left_cancel (show n + 21 = n + 8 from h9)) (by decide)) k826
  rw [← e_hh845] at k855
  have k856 := mj_sN (y := .inr (4, [.int 0, .int 0, .int 0, .ref (n + 22), .ref (n + 23), .ref (n + 24), .ref (n + 25)])) (show ((n + 21) : Nat) ≠ (n + 9) from fun h9 => absurd (Nat.add_left_cancel (show n + 21 = n + 9 from h9)) (by decide)) k827
  rw [← e_hh845] at k856
  have k857 := mj_sN (y := .inr (4, [.int 0, .int 0, .int 0, .ref (n + 22), .ref (n + 23), .ref (n + 24), .ref (n + 25)])) (show ((n + 21) : Nat) ≠ (n + 10) from fun h9 => absurd (Nat.add_left_cancel (show n + 21 = n + 10 from h9)) (by decide)) k828
  rw [← e_hh845] at k857
  have k858 := mj_sN (y := .inr (4, [.int 0, .int 0, .int 0, .ref (n + 22), .ref (n + 23), .ref (n + 24), .ref (n + 25)])) (show ((n + 21) : Nat) ≠ (n + 11) from fun h9 => absurd (Nat.add_left_cancel (show n + 21 = n + 11 from h9)) (by decide)) k829
  rw [← e_hh845] at k858
  have k859 := mj_sN (y := .inr (4, [.int 0, .int 0, .int 0, .ref (n + 22), .ref (n + 23), .ref (n + 24), .ref (n + 25)])) (show ((n + 21) : Nat) ≠ (n + 12) from fun h9 => absurd (Nat.add_left_cancel (show n + 21 = n + 12 from h9)) (by decide)) k830
  rw [← e_hh845] at k859
  have k860 := mj_sN (y := .inr (4, [.int 0, .int 0, .int 0, .ref (n + 22), .ref (n + 23), .ref (n + 24), .ref (n + 25)])) (show ((n + 21) : Nat) ≠ (n + 13) from fun h9 => absurd (Nat.add_left_cancel (show n + 21 = n + 13 from h9)) (by decide)) k831
  rw [← e_hh845] at k860
  have k861 := mj_sN (y := .inr (4, [.int 0, .int 0, .int 0, .ref (n + 22), .ref (n + 23), .ref (n + 24), .ref (n + 25)])) (show ((n + 21) : Nat) ≠ (n + 14) from fun h9 => absurd (Nat.add_left_cancel (show n + 21 = n + 14 from h9)) (by decide)) k832
  rw [← e_hh845] at k861
  have k862 := mj_sN (y := .inr (4, [.int 0, .int 0, .int 0, .ref (n + 22), .ref (n + 23), .ref (n + 24), .ref (n + 25)])) (show ((n + 21) : Nat) ≠ (n + 15) from fun h9 => absurd (Nat.add_left_cancel (show n + 21 = n + 15 from h9)) (by decide)) k833
  rw [← e_hh845] at k862
  have k863 := mj_sN (y := .inr (4, [.int 0, .int 0, .int 0, .ref (n + 22), .ref (n + 23), .ref (n + 24), .ref (n + 25)])) (show ((n + 21) : Nat) ≠ (n + 16) from fun h9 => absurd (Nat.add_left_cancel (show n + 21 = n + 16 from h9)) (by decide)) k834
  rw [← e_hh845] at k863
  have k864 := mj_sN (y := .inr (4, [.int 0, .int 0, .int 0, .ref (n + 22), .ref (n + 23), .ref (n + 24), .ref (n + 25)])) (show ((n + 21) : Nat) ≠ (n + 17) from fun h9 => absurd (Nat.add_left_cancel (show n + 21 = n + 17 from h9)) (by decide)) k835
  rw [← e_hh845] at k864
  have k865 := mj_sN (y := .inr (4, [.int 0, .int 0, .int 0, .ref (n + 22), .ref (n + 23), .ref (n + 24), .ref (n + 25)])) (show ((n + 21) : Nat) ≠ (n + 18) from fun h9 => absurd (Nat.add_left_cancel (show n + 21 = n + 18 from h9)) (by decide)) k836
  rw [← e_hh845] at k865
  have k866 := mj_sN (y := .inr (4, [.int 0, .int 0, .int 0, .ref (n + 22), .ref (n + 23), .ref (n + 24), .ref (n + 25)])) (show ((n + 21) : Nat) ≠ (n + 19) from fun h9 => absurd (Nat.add_left_cancel (show n + 21 = n + 19 from h9)) (by decide)) k837
  rw [← e_hh845] at k866
  have k867 := mj_sN (y := .inr (4, [.int 0, .int 0, .int 0, .ref (n + 22), .ref (n + 23), .ref (n + 24), .ref (n + 25)])) (show ((n + 21) : Nat) ≠ (n + 20) from fun h9 => absurd (Nat.add_left_cancel (show n + 21 = n + 20 from h9)) (by decide)) k838
  rw [← e_hh845] at k867
  have k868 : hh845[(n + 21)]? = some (.inr (4, [.int 0, .int 0, .int 0, .ref (n + 22), .ref (n + 23), .ref (n + 24), .ref (n + 25)])) := by rw [e_hh845]; exact mj_sS k839
  have k869 := mj_sN (y := .inr (4, [.int 0, .int 0, .int 0, .ref (n + 22), .ref (n + 23), .ref (n + 24), .ref (n + 25)])) (show ((n + 21) : Nat) ≠ (n + 22) from fun h9 => absurd (Nat.add_left_cancel (show n + 21 = n + 22 from h9)) (by decide)) k840
  rw [← e_hh845] at k869
  have k870 := mj_sN (y := .inr (4, [.int 0, .int 0, .int 0, .ref (n + 22), .ref (n + 23), .ref (n + 24), .ref (n + 25)])) (show ((n + 21) : Nat) ≠ (n + 23) from fun h9 => absurd (Nat.add_left_cancel (show n + 21 = n + 23 from h9)) (by decide)) k841
  rw [← e_hh845] at k870
  have k871 := mj_sN (y := .inr (4, [.int 0, .int 0, .int 0, .ref (n + 22), .ref (n + 23), .ref (n + 24), .ref (n + 25)])) (show ((n + 21) : Nat) ≠ (n + 24) from fun h9 => absurd (Nat.add_left_cancel (show n + 21 = n + 24 from h9)) (by decide)) k842
  rw [← e_hh845] at k871
  have k872 := mj_sN (y := .inr (4, [.int 0, .int 0, .int 0, .ref (n + 22), .ref (n + 23), .ref (n + 24), .ref (n + 25)])) (show ((n + 21) : Nat) ≠ (n + 25) from fun h9 => absurd (Nat.add_left_cancel (show n + 21 = n + 25 from h9)) (by decide)) k843
  rw [← e_hh845] at k872
  have l873 : hh845.length = (n + 26) := by rw [e_hh845, List.length_set]; exact l844
  refine mj_hp (h1 := hh845) (by rw [e_hh845, e_hh816, e_hh788, e_hh760, e_hh733, e_hh706, e_hh680, e_hh654]) ?_
  refine mj_put ok_RF (k := 5) (by decide) fl_RF_46 rfl (fun _ => rfl) (fun _ => rfl) (Nat.le_of_ble_eq_true rfl) d_RF_init_70 k846 ?_
  obtain ⟨hh874, e_hh874⟩ : ∃ q_ : mj_H, q_ = hh845.set a (.inr (0, [.ref n, .ref (n + 2), .ref (n + 12), .ref (n + 13), .ref (n + 16), .ref (n + 21), .int 0])) := ⟨_, rfl⟩
  refine mj_hp e_hh874 ?_
  have k875 : hh874[a]? = some (.inr (0, [.ref n, .ref (n + 2), .ref (n + 12), .ref (n + 13), .ref (n + 16), .ref (n + 21), .int 0])) := by rw [e_hh874]; exact mj_sS k846
  have k876 := mj_sN (y := .inr (0, [.ref n, .ref (n + 2), .ref (n + 12), .ref (n + 13), .ref (n + 16), .ref (n + 21), .int 0])) (show (a : Nat) ≠ n from Nat.ne_of_lt (Nat.lt_of_lt_of_le han (Nat.le_add_right n 0))) k847
  rw [← e_hh874] at k876
  have k877 := mj_sN (y := .inr (0, [.ref n, .ref (n + 2), .ref (n + 12), .ref (n + 13), .ref (n + 16), .ref (n + 21), .int 0])) (show (a : Nat) ≠ (n + 1) from Nat.ne_of_lt (Nat.lt_of_lt_of_le han (Nat.le_add_right n 1))) k848
  rw [← e_hh874] at k877
  have k878 := mj_sN (y := .inr (0, [.ref n, .ref (n + 2), .ref (n + 12), .ref (n + 13), .ref (n + 16), .ref (n + 21), .int 0])) (show (a : Nat) ≠ (n + 2) from Nat.ne_of_lt (Nat.lt_of_lt_of_le han (Nat.le_add_right n 2))) k849
  rw [← e_hh874] at k878
  have k879 := mj_sN (y := .inr (0, [.ref n, .ref (n + 2), .ref (n + 12), .ref (n + 13), .ref (n + 16), .ref (n + 21), .int 0])) (show (a : Nat) ≠ (n + 3) from Nat.ne_of_lt (Nat.lt_of_lt_of_le han (Nat.le_add_right n 3))) k850
  rw [← e_hh874] at k879
  have k880 := mj_sN (y := .inr (0, [.ref n, .ref (n + 2), .ref (n + 12), .ref (n + 13), .ref (n + 16), .ref (n + 21), .int 0])) (show (a : Nat) ≠ (n + 4) from Nat.ne_of_lt (Nat.lt_of_lt_of_le han (Nat.le_add_right n 4))) k851
  rw [← e_hh874] at k880
  have k881 := mj_sN (y := .inr (0, [.ref n, .ref (n + 2), .ref (n + 12), .ref (n + 13), .ref (n + 16), .ref (n + 21), .int 0])) (show (a : Nat) ≠ (n + 5) from Nat.ne_of_lt (Nat.lt_of_lt_of_le han (Nat.le_add_right n 5))) k852
  rw [← e_hh874] at k881
  have k882 := mj_sN (y := .inr (0, [.ref n, .ref (n + 2), .ref (n + 12), .ref (n + 13), .ref (n + 16), .ref (n + 21), .int 0])) (show (a : Nat) ≠ (n + 6) from Nat.ne_of_lt (Nat.lt_of_lt_of_le han (Nat.le_add_right n 6))) k853
  rw [← e_hh874] at k882
  have k883 := mj_sN (y := .inr (0, [.ref n, .ref (n + 2), .ref (n + 12), .ref (n + 13), .ref (n + 16), .ref (n + 21), .int 0])) (show (a : Nat) ≠ (n + 7) from Nat.ne_of_lt (Nat.lt_of_lt_of_le han (Nat.le_add_right n 7))) k854
  rw [← e_hh874] at k883
  have k884 := mj_sN (y := .inr (0, [.ref n, .ref (n + 2), .ref (n + 12), .ref (n + 13), .ref (n + 16), .ref (n + 21), .int 0])) (show (a : Nat) ≠ (n + 8) from Nat.ne_of_lt (Nat.lt_of_lt_of_le han (Nat.le_add_right n 8))) k855
  rw [← e_hh874] at k884
  have k885 := mj_sN (y := .inr (0, [.ref n, .ref (n + 2), .ref (n + 12), .ref (n + 13), .ref (n + 16), .ref (n + 21), .int 0])) (show (a : Nat) ≠ (n + 9) from Nat.ne_of_lt (Nat.lt_of_lt_of_le han (Nat.le_add_right n 9))) k856
  rw [← e_hh874] at k885
  have k886 := mj_sN (y := .inr (0, [.ref n, .ref (n + 2), .ref (n + 12), .ref (n + 13), .ref (n + 16), .ref (n + 21), .int 0])) (show (a : Nat) ≠ (n + 10) from Nat.ne_of_lt (Nat.lt_of_lt_of_le han (Nat.le_add_right n 10))) k857
  rw [← e_hh874] at k886
  have k887 := mj_sN (y := .inr (0, [.ref n, .ref (n + 2), .ref (n + 12), .ref (n + 13), .ref (n + 16), .ref (n + 21), .int 0])) (show (a : Nat) ≠ (n + 11) from Nat.ne_of_lt (Nat.lt_of_lt_of_le han (Nat.le_add_right n 11))) k858
  rw [← e_hh874] at k887
  have k888 := mj_sN (y := .inr (0, [.ref n, .ref (n + 2), .ref (n + 12), .ref (n + 13), .ref (n + 16), .ref (n + 21), .int 0])) (show (a : Nat) ≠ (n + 12) from Nat.ne_of_lt (Nat.lt_of_lt_of_le han (Nat.le_add_right n 12))) k859
  rw [← e_hh874] at k888
  have k889 := mj_sN (y := .inr (0, [.ref n, .ref (n + 2), .ref (n + 12), .ref (n + 13), .ref (n + 16), .ref (n + 21), .int 0])) (show (a : Nat) ≠ (n + 13) from Nat.ne_of_lt (Nat.lt_of_lt_of_le han (Nat.le_add_right n 13))) k860
  rw [← e_hh874] at k889
  have k890 := mj_sN (y := .inr (0, [.ref n, .ref (n + 2), .ref (n + 12), .ref (n + 13), .ref (n + 16), .ref (n + 21), .int 0])) (show (a : Nat) ≠ (n + 14) from Nat.ne_of_lt (Nat.lt_of_lt_of_le han (Nat.le_add_right n 14))) k861
  rw [← e_hh874] at k890
  have k891 := mj_sN (y := .inr (0, [.ref n, .ref (n + 2), .ref (n + 12), .ref (n + 13), .ref (n + 16), .ref (n + 21), .int 0])) (show (a : Nat) ≠ (n + 15) from Nat.ne_of_lt (Nat.lt_of_lt_of_le han (Nat.le_add_right n 15))) k862
  rw [← e_hh874] at k891
  have k892 := mj_sN (y := .inr (0, [.ref n, .ref (n + 2), .ref (n + 12), .ref (n + 13), .ref (n + 16), .ref (n + 21), .int 0])) (show (a : Nat) ≠ (n + 16) from Nat.ne_of_lt (Nat.lt_of_lt_of_le han (Nat.le_add_right n 16))) k863
  rw [← e_hh874] at k892
  have k893 := mj_sN (y := .inr (0, [.ref n, .ref (n + 2), .ref (n + 12), .ref (n + 13), .ref (n + 16), .ref (n + 21), .int 0])) (show (a : Nat) ≠ (n + 17) from Nat.ne_of_lt (Nat.lt_of_lt_of_le han (Nat.le_add_right n 17))) k864
  rw [← e_hh874] at k893
  have k894 := mj_sN (y := .inr (0, [.ref n, .ref (n + 2), .ref (n + 12), .ref (n + 13), .ref (n + 16), .ref (n + 21), .int 0])) (show (a : Nat) ≠ (n + 18) from Nat.ne_of_lt (Nat.lt_of_lt_of_le han (Nat.le_add_right n 18))) k865
  rw [← e_hh874] at k894
  have k895 := mj_sN (y := .inr (0, [.ref n, .ref (n + 2), .ref (n + 12), .ref (n + 13), .ref (n + 16), .ref (n + 21), .int 0])) (show (a : Nat) ≠ (n + 19) from Nat.ne_of_lt (Nat.lt_of_lt_of_le han (Nat.le_add_right n 19))) k866
  rw [← e_hh874] at k895
  have k896 := mj_sN (y := .inr (0, [.ref n, .ref (n + 2), .ref (n + 12), .ref (n + 13), .ref (n + 16), .ref (n + 21), .int 0])) (show (a : Nat) ≠ (n + 20) from Nat.ne_of_lt (Nat.lt_of_lt_of_le han (Nat.le_add_right n 20))) k867
  rw [← e_hh874] at k896
  have k897 := mj_sN (y := .inr (0, [.ref n, .ref (n + 2), .ref (n + 12), .ref (n + 13), .ref (n + 16), .ref (n + 21), .int 0])) (show (a : Nat) ≠ (n + 21) from Nat.ne_of_lt (Nat.lt_of_lt_of_le han (Nat.le_add_right n 21))) k868
  rw [← e_hh874] at k897
  have k898 := mj_sN (y := .inr (0, [.ref n, .ref (n + 2), .ref (n + 12), .ref (n + 13), .ref (n + 16), .ref (n + 21), .int 0])) (show (a : Nat) ≠ (n + 22) from Nat.ne_of_lt (Nat.lt_of_lt_of_le han (Nat.le_add_right n 22))) k869
  rw [← e_hh874] at k898
  have k899 := mj_sN (y := .inr (0, [.ref n, .ref (n + 2), .ref (n + 12), .ref (n + 13), .ref (n + 16), .ref (n + 21), .int 0])) (show (a : Nat) ≠ (n + 23) from Nat.ne_of_lt (Nat.lt_of_lt_of_le han (Nat.le_add_right n 23))) k870
  rw [← e_hh874] at k899
  have k900 := mj_sN (y := .inr (0, [.ref n, .ref (n + 2), .ref (n + 12), .ref (n + 13), .ref (n + 16), .ref (n + 21), .int 0])) (show (a : Nat) ≠ (n + 24) from Nat.ne_of_lt (Nat.lt_of_lt_of_le han (Nat.le_add_right n 24))) k871
  rw [← e_hh874] at k900
  have k901 := mj_sN (y := .inr (0, [.ref n, .ref (n + 2), .ref (n + 12), .ref (n + 13), .ref (n + 16), .ref (n + 21), .int 0])) (show (a : Nat) ≠ (n + 25) from Nat.ne_of_lt (Nat.lt_of_lt_of_le han (Nat.le_add_right n 25))) k872
  rw [← e_hh874] at k901
  have l902 : hh874.length = (n + 26) := by rw [e_hh874, List.length_set]; exact l873
  refine mj_aload_n d_RF_init_73 rfl ?_
  refine mj_bipush (v := (-2)) d_RF_init_74 (by decide) ?_
  refine mj_put ok_RF (k := 6) (by decide) fl_RF_49 rfl (fun _ => rfl) (fun _ => rfl) (Nat.le_of_ble_eq_true rfl) d_RF_init_76 k875 ?_
  obtain ⟨hh903, e_hh903⟩ : ∃ q_ : mj_H, q_ = hh874.set a (.inr (0, [.ref n, .ref (n + 2), .ref (n + 12), .ref (n + 13), .ref (n + 16), .ref (n + 21), .int (-2)])) := ⟨_, rfl⟩
  refine mj_hp e_hh903 ?_
  have k904 : hh903[a]? = some (.inr (0, [.ref n, .ref (n + 2), .ref (n + 12), .ref (n + 13), .ref (n + 16), .ref (n + 21), .int (-2)])) := by rw [e_hh903]; exact mj_sS k875
  have k905 := mj_sN (y := .inr (0, [.ref n, .ref (n + 2), .ref (n + 12), .ref (n + 13), .ref (n + 16), .ref (n + 21), .int (-2)])) (show (a : Nat) ≠ n from Nat.ne_of_lt (Nat.lt_of_lt_of_le han (Nat.le_add_right n 0))) k876
  rw [← e_hh903] at k905
  have k906 := mj_sN (y := .inr (0, [.ref n, .ref (n + 2), .ref (n + 12), .ref (n + 13), .ref (n + 16), .ref (n + 21), .int (-2)])) (show (a : Nat) ≠ (n + 1) from Nat.ne_of_lt (Nat.lt_of_lt_of_le han (Nat.le_add_right n 1))) k877
  rw [← e_hh903] at k906
  have k907 := mj_sN (y := .inr (0, [.ref n, .ref (n + 2), .ref (n + 12), .ref (n + 13), .ref (n + 16), .ref (n + 21), .int (-2)])) (show (a : Nat) ≠ (n + 2) from Nat.ne_of_lt (Nat.lt_of_lt_of_le han (Nat.le_add_right n 2))) k878
  rw [← e_hh903] at k907
  have k908 := mj_sN (y := .inr (0, [.ref n, .ref (n + 2), .ref (n + 12), .ref (n + 13), .ref (n + 16), .ref (n + 21), .int (-2)])) (show (a : Nat) ≠ (n + 3) from Nat.ne_of_lt (Nat.lt_of_lt_of_le han (Nat.le_add_right n 3))) k879
  rw [← e_hh903] at k908
  have k909 := mj_sN (y := .inr (0, [.ref n, .ref (n + 2), .ref (n + 12), .ref (n + 13), .ref (n + 16), .ref (n + 21), .int (-2)])) (show (a : Nat) ≠ (n + 4) from Nat.ne_of_lt (Nat.lt_of_lt_of_le han (Nat.le_add_right n 4))) k880
  rw [← e_hh903] at k909
  have k910 := mj_sN (y := .inr (0, [.ref n, .ref (n + 2), .ref (n + 12), .ref (n + 13), .ref (n + 16), .ref (n + 21), .int (-2)])) (show (a : Nat) ≠ (n + 5) from Nat.ne_of_lt (Nat.lt_of_lt_of_le han (Nat.le_add_right n 5))) k881
  rw [← e_hh903] at k910
  have k911 := mj_sN (y := .inr (0, [.ref n, .ref (n + 2), .ref (n + 12), .ref (n + 13), .ref (n + 16), .ref (n + 21), .int (-2)])) (show (a : Nat) ≠ (n + 6) from Nat.ne_of_lt (Nat.lt_of_lt_of_le han (Nat.le_add_right n 6))) k882
  rw [← e_hh903] at k911
  have k912 := mj_sN (y := .inr (0, [.ref n, .ref (n + 2), .ref (n + 12), .ref (n + 13), .ref (n + 16), .ref (n + 21), .int (-2)])) (show (a : Nat) ≠ (n + 7) from Nat.ne_of_lt (Nat.lt_of_lt_of_le han (Nat.le_add_right n 7))) k883
  rw [← e_hh903] at k912
  have k913 := mj_sN (y := .inr (0, [.ref n, .ref (n + 2), .ref (n + 12), .ref (n + 13), .ref (n + 16), .ref (n + 21), .int (-2)])) (show (a : Nat) ≠ (n + 8) from Nat.ne_of_lt (Nat.lt_of_lt_of_le han (Nat.le_add_right n 8))) k884
  rw [← e_hh903] at k913
  have k914 := mj_sN (y := .inr (0, [.ref n, .ref (n + 2), .ref (n + 12), .ref (n + 13), .ref (n + 16), .ref (n + 21), .int (-2)])) (show (a : Nat) ≠ (n + 9) from Nat.ne_of_lt (Nat.lt_of_lt_of_le han (Nat.le_add_right n 9))) k885
  rw [← e_hh903] at k914
  have k915 := mj_sN (y := .inr (0, [.ref n, .ref (n + 2), .ref (n + 12), .ref (n + 13), .ref (n + 16), .ref (n + 21), .int (-2)])) (show (a : Nat) ≠ (n + 10) from Nat.ne_of_lt (Nat.lt_of_lt_of_le han (Nat.le_add_right n 10))) k886
  rw [← e_hh903] at k915
  have k916 := mj_sN (y := .inr (0, [.ref n, .ref (n + 2), .ref (n + 12), .ref (n + 13), .ref (n + 16), .ref (n + 21), .int (-2)])) (show (a : Nat) ≠ (n + 11) from Nat.ne_of_lt (Nat.lt_of_lt_of_le han (Nat.le_add_right n 11))) k887
  rw [← e_hh903] at k916
  have k917 := mj_sN (y := .inr (0, [.ref n, .ref (n + 2), .ref (n + 12), .ref (n + 13), .ref (n + 16), .ref (n + 21), .int (-2)])) (show (a : Nat) ≠ (n + 12) from Nat.ne_of_lt (Nat.lt_of_lt_of_le han (Nat.le_add_right n 12))) k888
  rw [← e_hh903] at k917
  have k918 := mj_sN (y := .inr (0, [.ref n, .ref (n + 2), .ref (n + 12), .ref (n + 13), .ref (n + 16), .ref (n + 21), .int (-2)])) (show (a : Nat) ≠ (n + 13) from Nat.ne_of_lt (Nat.lt_of_lt_of_le han (Nat.le_add_right n 13))) k889
  rw [← e_hh903] at k918
  have k919 := mj_sN (y := .inr (0, [.ref n, .ref (n + 2), .ref (n + 12), .ref (n + 13), .ref (n + 16), .ref (n + 21), .int (-2)])) (show (a : Nat) ≠ (n + 14) from Nat.ne_of_lt (Nat.lt_of_lt_of_le han (Nat.le_add_right n 14))) k890
  rw [← e_hh903] at k919
  have k920 := mj_sN (y := .inr (0, [.ref n, .ref (n + 2), .ref (n + 12), .ref (n + 13), .ref (n + 16), .ref (n + 21), .int (-2)])) (show (a : Nat) ≠ (n + 15) from Nat.ne_of_lt (Nat.lt_of_lt_of_le han (Nat.le_add_right n 15))) k891
  rw [← e_hh903] at k920
  have k921 := mj_sN (y := .inr (0, [.ref n, .ref (n + 2), .ref (n + 12), .ref (n + 13), .ref (n + 16), .ref (n + 21), .int (-2)])) (show (a : Nat) ≠ (n + 16) from Nat.ne_of_lt (Nat.lt_of_lt_of_le han (Nat.le_add_right n 16))) k892
  rw [← e_hh903] at k921
  have k922 := mj_sN (y := .inr (0, [.ref n, .ref (n + 2), .ref (n + 12), .ref (n + 13), .ref (n + 16), .ref (n + 21), .int (-2)])) (show (a : Nat) ≠ (n + 17) from Nat.ne_of_lt (Nat.lt_of_lt_of_le han (Nat.le_add_right n 17))) k893
  rw [← e_hh903] at k922
  have k923 := mj_sN (y := .inr (0, [.ref n, .ref (n + 2), .ref (n + 12), .ref (n + 13), .ref (n + 16), .ref (n + 21), .int (-2)])) (show (a : Nat) ≠ (n + 18) from Nat.ne_of_lt (Nat.lt_of_lt_of_le han (Nat.le_add_right n 18))) k894
  rw [← e_hh903] at k923
  have k924 := mj_sN (y := .inr (0, [.ref n, .ref (n + 2), .ref (n + 12), .ref (n + 13), .ref (n + 16), .ref (n + 21), .int (-2)])) (show (a : Nat) ≠ (n + 19) from Nat.ne_of_lt (Nat.lt_of_lt_of_le han (Nat.le_add_right n 19))) k895
  rw [← e_hh903] at k924
  have k925 := mj_sN (y := .inr (0, [.ref n, .ref (n + 2), .ref (n + 12), .ref (n + 13), .ref (n + 16), .ref (n + 21), .int (-2)])) (show (a : Nat) ≠ (n + 20) from Nat.ne_of_lt (Nat.lt_of_lt_of_le han (Nat.le_add_right n 20))) k896
  rw [← e_hh903] at k925
  have k926 := mj_sN (y := .inr (0, [.ref n, .ref (n + 2), .ref (n + 12), .ref (n + 13), .ref (n + 16), .ref (n + 21), .int (-2)])) (show (a : Nat) ≠ (n + 21) from Nat.ne_of_lt (Nat.lt_of_lt_of_le han (Nat.le_add_right n 21))) k897
  rw [← e_hh903] at k926
  have k927 := mj_sN (y := .inr (0, [.ref n, .ref (n + 2), .ref (n + 12), .ref (n + 13), .ref (n + 16), .ref (n + 21), .int (-2)])) (show (a : Nat) ≠ (n + 22) from Nat.ne_of_lt (Nat.lt_of_lt_of_le han (Nat.le_add_right n 22))) k898
  rw [← e_hh903] at k927
  have k928 := mj_sN (y := .inr (0, [.ref n, .ref (n + 2), .ref (n + 12), .ref (n + 13), .ref (n + 16), .ref (n + 21), .int (-2)])) (show (a : Nat) ≠ (n + 23) from Nat.ne_of_lt (Nat.lt_of_lt_of_le han (Nat.le_add_right n 23))) k899
  rw [← e_hh903] at k928
  have k929 := mj_sN (y := .inr (0, [.ref n, .ref (n + 2), .ref (n + 12), .ref (n + 13), .ref (n + 16), .ref (n + 21), .int (-2)])) (show (a : Nat) ≠ (n + 24) from Nat.ne_of_lt (Nat.lt_of_lt_of_le han (Nat.le_add_right n 24))) k900
  rw [← e_hh903] at k929
  have k930 := mj_sN (y := .inr (0, [.ref n, .ref (n + 2), .ref (n + 12), .ref (n + 13), .ref (n + 16), .ref (n + 21), .int (-2)])) (show (a : Nat) ≠ (n + 25) from Nat.ne_of_lt (Nat.lt_of_lt_of_le han (Nat.le_add_right n 25))) k901
  rw [← e_hh903] at k930
  have l931 : hh903.length = (n + 26) := by rw [e_hh903, List.length_set]; exact l902
  refine mj_aload_n d_RF_init_79 rfl ?_
  refine mj_get ok_RF (k := 4) (by decide) fl_RF_42 d_RF_init_80 k904 rfl ?_
  refine mj_iconst (v := 1) d_RF_init_83 (by decide) ?_
  refine mj_iconst (v := 1) d_RF_init_84 (by decide) ?_
  have P : Pi hh903 (n + 16) (n + 17) (n + 18) (n + 19) (n + 20) ((0, 0, 0, (fun _ => 0), (fun _ => 0), (fun _ => 0), (fun _ => 0)) : pi_P) := ⟨k921, k922, k923, k924, k925, ⟨(show ((n + 17) : Nat) ≠ (n + 18) from fun h9 => absurd (Nat.add_left_cancel (show n + 17 = n + 18 from h9)) (by decide)), (show ((n + 17) : Nat) ≠ (n + 19) from fun h9 => absurd (Nat.add_left_cancel (show n + 17 = n + 19 from h9)) (by decide)), (show ((n + 17) : Nat) ≠ (n + 20) from fun h9 => absurd (Nat.add_left_cancel (show n + 17 = n + 20 from h9)) (by decide)), (show ((n + 18) : Nat) ≠ (n + 19) from fun h9 => absurd (Nat.add_left_cancel (show n + 18 = n + 19 from h9)) (by decide)), (show ((n + 18) : Nat) ≠ (n + 20) from fun h9 => absurd (Nat.add_left_cancel (show n + 18 = n + 20 from h9)) (by decide)), (show ((n + 19) : Nat) ≠ (n + 20) from fun h9 => absurd (Nat.add_left_cancel (show n + 19 = n + 20 from h9)) (by decide))⟩, by decide, by decide, by decide⟩
  refine mj_cV (S := []) (S1 := []) (c_Pi_startAnew P (w := 1) (v := 1) (by decide) (by decide)) d_RF_init_85 cw_Pi_startAnew ml_RF_53 im_Pi_startAnew se_Pi_startAnew rfl k921 (by decide) rfl (Nat.le_of_ble_eq_true rfl) rfl rfl ?_
  have P1 := P.up (p' := pi_new ((0, 0, 0, (fun _ => 0), (fun _ => 0), (fun _ => 0), (fun _ => 0)) : pi_P) 1 1) ⟨by decide, by decide, by decide⟩
  have a1 : (pi_up hh903 (n + 16) (n + 17) (n + 18) (n + 19) (n + 20) (pi_new ((0, 0, 0, (fun _ => 0), (fun _ => 0), (fun _ => 0), (fun _ => 0)) : pi_P) 1 1))[a]? = some _ := (pi_fr (show (a : Nat) ≠ (n + 16) from Nat.ne_of_lt (Nat.lt_of_lt_of_le han (Nat.le_add_right n 16))) (show (a : Nat) ≠ (n + 17) from Nat.ne_of_lt (Nat.lt_of_lt_of_le han (Nat.le_add_right n 17))) (show (a : Nat) ≠ (n + 18) from Nat.ne_of_lt (Nat.lt_of_lt_of_le han (Nat.le_add_right n 18))) (show (a : Nat) ≠ (n + 19) from Nat.ne_of_lt (Nat.lt_of_lt_of_le han (Nat.le_add_right n 19))) (show (a : Nat) ≠ (n + 20) from Nat.ne_of_lt (Nat.lt_of_lt_of_le han (Nat.le_add_right n 20)))).trans k904
  have p1 := P1.1
  refine mj_aload_n d_RF_init_88 rfl ?_
  refine mj_get ok_RF (k := 4) (by decide) fl_RF_42 d_RF_init_89 a1 rfl ?_
  refine mj_bipush (v := 97) d_RF_init_92 (by decide) ?_
  refine mj_iconst (v := 0) d_RF_init_94 (by decide) ?_
  refine mj_iconst (v := 1) d_RF_init_95 (by decide) ?_
  refine mj_cV (S := []) (S1 := []) (c_Pi_addChannel P1 97 0 1) d_RF_init_96 cw_Pi_addChannel ml_RF_57 im_Pi_addChannel se_Pi_addChannel rfl p1 (by decide) rfl (Nat.le_of_ble_eq_true rfl) rfl rfl ?_
  exact mj_vret rfl d_RF_init_99 ⟨rfl, by rw [e_hh903, e_hh874, e_hh845, e_hh816, e_hh788, e_hh760, e_hh733, e_hh706, e_hh680, e_hh654, e_hh629, e_hh605, e_hh581, e_hh557, e_hh534, e_hh511, e_hh489, e_hh467, e_hh446, e_hh425, e_hh405, e_hh386, e_hh367, e_hh348, e_hh329, e_hh311, e_hh294, e_hh277, e_hh261, e_hh245, e_hh230, e_hh215, e_hh200, e_hh185, e_hh171, e_hh158, e_hh145, e_hh132, e_hh119, e_hh107, e_hh96, e_hh86, e_hh76, e_hh66, e_hh57, e_hh49, e_hh41, e_hh33, e_hh26, e_hh20, e_hh15, e_hh10, e_hh5, e_hh1]⟩
