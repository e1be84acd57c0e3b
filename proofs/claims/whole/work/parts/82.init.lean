theorem c_By_initK {h : mj_H} {a n k : Nat} (ha : h[a]? = some (.inr (1, [.null, .int 0, .int 0]))) (hn : h.length = n) (hk : k < 2 ^ 20) : mj_Met M_By_init (1, 20, none) 1 k [.ref a, .int (nI k)] h (mj_q none ((h ++ ([.inl (k, .inl (fun _ => 0))] : mj_H)).set a (.inr (1, [.ref n, .int 0, .int 0])))) := by
  have q := c_By_init ha hn hk
  rw [Nat.zero_add] at q
  exact q
set_option maxRecDepth 100000 in
set_option maxHeartbeats 4000000 in
theorem c_Pa_init {h : mj_H} {a n : Nat} (ha : h[a]? = some (.inr (3, [.null]))) (hn : h.length = n) : mj_Met M_Pa_init (2, 41, none) 2 387 [.ref a] h (mj_q none ((((h ++ ([.inr (1, [.null, .int 0, .int 0])] : mj_H)) ++ ([.inl (384, .inl (fun _ => 0))] : mj_H)).set n (.inr (1, [.ref (n + 1), .int 0, .int 0]))).set a (.inr (3, [.ref n])))) := by
  have han : a < n := by rw [← hn]; exact (List.getElem?_eq_some_iff.mp ha).1
  refine mj_enter (r := 0) rfl rfl (by decide) rfl ?_
  show mj_W M_Pa_init _ _ _ _ 0 [some (.ref a)] [] h
  refine mj_aload_n d_Pa_init_0 rfl ?_
  refine mj_objInit d_Pa_init_1 ml_Pa_3 im_Ob_init cd_Ob_init (by decide) (Nat.le_of_ble_eq_true rfl) ?_
  refine mj_aload_n d_Pa_init_4 rfl ?_
  refine mj_new (kc := 1) (ks := 384) (fs := [.null, .int 0, .int 0]) ok_By cl_Pa_9 ia_By in_By d_Pa_init_5 nf_By (fun _ => rfl) ?_
  refine mj_ra hn ?_
  obtain ⟨hh1, e_hh1⟩ : ∃ q_ : mj_H, q_ = h ++ [.inr (1, [.null, .int 0, .int 0])] := ⟨_, rfl⟩
  refine mj_hp e_hh1 ?_
  have k2 := mj_al (t := [.inr (1, [.null, .int 0, .int 0])]) ha
  rw [← e_hh1] at k2
  have k3 := mj_ae (x := .inr (1, [.null, .int 0, .int 0])) hn
  rw [← e_hh1] at k3
  have l4 := mj_an (x := .inr (1, [.null, .int 0, .int 0])) hn
  rw [← e_hh1] at l4
  refine mj_dup d_Pa_init_8 rfl ?_
  refine mj_sipush (v := 384) d_Pa_init_9 (by decide) ?_
  refine mj_cI (kc := 0) (ks := 0) (S := [.ref n, .ref a]) (S1 := [.ref n, .ref a]) (c_By_initK (k := 384) k3 l4 (by decide)) rfl rfl d_Pa_init_12 cw_By_init ml_Pa_11 im_By_init (by decide) rfl (Nat.le_of_ble_eq_true rfl) rfl rfl ?_
  obtain ⟨hh5, e_hh5⟩ : ∃ q_ : mj_H, q_ = hh1 ++ ([.inl (384, .inl (fun _ => 0))] : mj_H) := ⟨_, rfl⟩
  have k6 := mj_al (t := [.inl (384, .inl (fun _ => 0))]) k2
  rw [← e_hh5] at k6
  have k7 := mj_al (t := [.inl (384, .inl (fun _ => 0))]) k3
  rw [← e_hh5] at k7
  have k8 := mj_ae (x := .inl (384, .inl (fun _ => 0))) l4
  rw [← e_hh5] at k8
  have l9 := mj_an (x := .inl (384, .inl (fun _ => 0))) l4
  rw [← e_hh5] at l9
  obtain ⟨hh10, e_hh10⟩ : ∃ q_ : mj_H, q_ = hh5.set n (.inr (1, [.ref (n + 1), .int 0, .int 0])) := ⟨_, rfl⟩
  have k11 := mj_sN (y := .inr (1, [.ref (n + 1), .int 0, .int 0])) (show (n : Nat) ≠ a from (Nat.ne_of_lt (Nat.lt_of_lt_of_le han (Nat.le_add_right n 0))).symm) k6
  rw [← e_hh10] at k11
  have k12 : hh10[n]? = some (.inr (1, [.ref (n + 1), .int 0, .int 0])) := by rw [e_hh10]; exact mj_sS k7
  have k13 := mj_sN (y := .inr (1, [.ref (n + 1), .int 0, .int 0])) (show (n : Nat) ≠ (n + 1) from fun h9 => absurd (Nat.add_left_cancel (show n + 0 = n + 1 from h9)) (by decide)) k8
  rw [← e_hh10] at k13
  have l14 : hh10.length = (n + 2) := by rw [e_hh10, List.length_set]; exact l9
  refine mj_hp (h1 := hh10) (by rw [e_hh10, e_hh5]) ?_
  refine mj_putF ok_Pa (k := 0) (by decide) fl_Pa_14 rfl rfl rfl (fun _ => rfl) (fun _ => rfl) (Nat.le_of_ble_eq_true rfl) d_Pa_init_15 k11 ?_
  obtain ⟨hh15, e_hh15⟩ : ∃ q_ : mj_H, q_ = hh10.set a (.inr (3, [.ref n])) := ⟨_, rfl⟩
  refine mj_hp e_hh15 ?_
  have k16 : hh15[a]? = some (.inr (3, [.ref n])) := by rw [e_hh15]; exact mj_sS k11
  have k17 := mj_sN (y := .inr (3, [.ref n])) (show (a : Nat) ≠ n from Nat.ne_of_lt (Nat.lt_of_lt_of_le han (Nat.le_add_right n 0))) k12
  rw [← e_hh15] at k17
  have k18 := mj_sN (y := .inr (3, [.ref n])) (show (a : Nat) ≠ (n + 1) from Nat.ne_of_lt (Nat.lt_of_lt_of_le han (Nat.le_add_right n 1))) k13
  rw [← e_hh15] at k18
  have l19 : hh15.length = (n + 2) := by rw [e_hh15, List.length_set]; exact l14
  exact mj_vret rfl d_Pa_init_18 ⟨rfl, by rw [e_hh15, e_hh10, e_hh5, e_hh1]⟩
set_option maxRecDepth 100000 in
set_option maxHeartbeats 4000000 in
theorem c_Re_init {h : mj_H} {a n : Nat} (ha : h[a]? = some (.inr (5, [.int 0, .int 0, .int 0, .null, .int 0]))) (hn : h.length = n) : mj_Met M_Re_init (2, 41, none) 2 3 [.ref a] h (mj_q none (((((h.set a (.inr (5, [.int (-2), .int 0, .int 0, .null, .int 0]))) ++ ([.inr (1, [.null, .int 0, .int 0])] : mj_H)) ++ ([.inl (0, .inl (fun _ => 0))] : mj_H)).set n (.inr (1, [.ref (n + 1), .int 0, .int 0]))).set a (.inr (5, [.int (-2), .int 0, .int 0, .ref n, .int 0])))) := by
  have han : a < n := by rw [← hn]; exact (List.getElem?_eq_some_iff.mp ha).1
  refine mj_enter (r := 0) rfl rfl (by decide) rfl ?_
  show mj_W M_Re_init _ _ _ _ 0 [some (.ref a)] [] h
  refine mj_aload_n d_Re_init_0 rfl ?_
  refine mj_objInit d_Re_init_1 ml_Re_3 im_Ob_init cd_Ob_init (by decide) (Nat.le_of_ble_eq_true rfl) ?_
  refine mj_aload_n d_Re_init_4 rfl ?_
  refine mj_bipush (v := (-2)) d_Re_init_5 (by decide) ?_
  refine mj_put ok_Re (k := 0) (by decide) fl_Re_9 rfl (fun _ => rfl) (fun _ => rfl) (Nat.le_of_ble_eq_true rfl) d_Re_init_7 ha ?_
  obtain ⟨hh1, e_hh1⟩ : ∃ q_ : mj_H, q_ = h.set a (.inr (5, [.int (-2), .int 0, .int 0, .null, .int 0])) := ⟨_, rfl⟩
  refine mj_hp e_hh1 ?_
  have k2 : hh1[a]? = some (.inr (5, [.int (-2), .int 0, .int 0, .null, .int 0])) := by rw [e_hh1]; exact mj_sS ha
  have l3 : hh1.length = n := by rw [e_hh1, List.length_set]; exact hn
  refine mj_aload_n d_Re_init_10 rfl ?_
  refine mj_new (kc := 1) (ks := 0) (fs := [.null, .int 0, .int 0]) ok_By cl_Re_15 ia_By in_By d_Re_init_11 nf_By (fun _ => rfl) ?_
  refine mj_ra l3 ?_
  obtain ⟨hh4, e_hh4⟩ : ∃ q_ : mj_H, q_ = hh1 ++ [.inr (1, [.null, .int 0, .int 0])] := ⟨_, rfl⟩
  refine mj_hp e_hh4 ?_
  have k5 := mj_al (t := [.inr (1, [.null, .int 0, .int 0])]) k2
  rw [← e_hh4] at k5
  have k6 := mj_ae (x := .inr (1, [.null, .int 0, .int 0])) l3
  rw [← e_hh4] at k6
  have l7 := mj_an (x := .inr (1, [.null, .int 0, .int 0])) l3
  rw [← e_hh4] at l7
  refine mj_dup d_Re_init_14 rfl ?_
  refine mj_iconst (v := 0) d_Re_init_15 (by decide) ?_
  refine mj_cI (kc := 0) (ks := 0) (S := [.ref n, .ref a]) (S1 := [.ref n, .ref a]) (c_By_initK (k := 0) k6 l7 (by decide)) rfl rfl d_Re_init_16 cw_By_init ml_Re_17 im_By_init (by decide) rfl (Nat.le_of_ble_eq_true rfl) rfl rfl ?_
  obtain ⟨hh8, e_hh8⟩ : ∃ q_ : mj_H, q_ = hh4 ++ ([.inl (0, .inl (fun _ => 0))] : mj_H) := ⟨_, rfl⟩
  have k9 := mj_al (t := [.inl (0, .inl (fun _ => 0))]) k5
  rw [← e_hh8] at k9
  have k10 := mj_al (t := [.inl (0, .inl (fun _ => 0))]) k6
  rw [← e_hh8] at k10
  have k11 := mj_ae (x := .inl (0, .inl (fun _ => 0))) l7
  rw [← e_hh8] at k11
  have l12 := mj_an (x := .inl (0, .inl (fun _ => 0))) l7
  rw [← e_hh8] at l12
  obtain ⟨hh13, e_hh13⟩ : ∃ q_ : mj_H, q_ = hh8.set n (.inr (1, [.ref (n + 1), .int 0, .int 0])) := ⟨_, rfl⟩
  have k14 := mj_sN (y := .inr (1, [.ref (n + 1), .int 0, .int 0])) (show (n : Nat) ≠ a from (Nat.ne_of_lt (Nat.lt_of_lt_of_le han (Nat.le_add_right n 0))).symm) k9
  rw [← e_hh13] at k14
  have k15 : hh13[n]? = some (.inr (1, [.ref (n + 1), .int 0, .int 0])) := by rw [e_hh13]; exact mj_sS k10
  have k16 := mj_sN (y := .inr (1, [.ref (n + 1), .int 0, .int 0])) (show (n : Nat) ≠ (n + 1) from fun h9 => absurd (Nat.add_left_cancel (show n + 0 = n + 1 from h9)) (by decide)) k11
  rw [← e_hh13] at k16
  have l17 : hh13.length = (n + 2) := by rw [e_hh13, List.length_set]; exact l12
  refine mj_hp (h1 := hh13) (by rw [e_hh13, e_hh8]) ?_
  refine mj_put ok_Re (k := 3) (by decide) fl_Re_20 rfl (fun _ => rfl) (fun _ => rfl) (Nat.le_of_ble_eq_true rfl) d_Re_init_19 k14 ?_
  obtain ⟨hh18, e_hh18⟩ : ∃ q_ : mj_H, q_ = hh13.set a (.inr (5, [.int (-2), .int 0, .int 0, .ref n, .int 0])) := ⟨_, rfl⟩
  refine mj_hp e_hh18 ?_
  have k19 : hh18[a]? = some (.inr (5, [.int (-2), .int 0, .int 0, .ref n, .int 0])) := by rw [e_hh18]; exact mj_sS k14
  have k20 := mj_sN (y := .inr (5, [.int (-2), .int 0, .int 0, .ref n, .int 0])) (show (a : Nat) ≠ n from Nat.ne_of_lt (Nat.lt_of_lt_of_le han (Nat.le_add_right n 0))) k15
  rw [← e_hh18] at k20
  have k21 := mj_sN (y := .inr (5, [.int (-2), .int 0, .int 0, .ref n, .int 0])) (show (a : Nat) ≠ (n + 1) from Nat.ne_of_lt (Nat.lt_of_lt_of_le han (Nat.le_add_right n 1))) k16
  rw [← e_hh18] at k21
  have l22 : hh18.length = (n + 2) := by rw [e_hh18, List.length_set]; exact l17
  exact mj_vret rfl d_Re_init_22 ⟨rfl, by rw [e_hh18, e_hh13, e_hh8, e_hh4, e_hh1]⟩
set_option maxRecDepth 100000 in
set_option maxHeartbeats 4000000 in
theorem c_Co_init {h : mj_H} {a n : Nat} (ha : h[a]? = some (.inr (2, [.null, .null, .null, .null]))) (hn : h.length = n) : mj_Met M_Co_init (3, 61, none) 9 1211 [.ref a] h (mj_q none ((((((((((((((((((h ++ ([.inr (1, [.null, .int 0, .int 0])] : mj_H)) ++ ([.inl (384, .inl (fun _ => 0))] : mj_H)).set n (.inr (1, [.ref (n + 1), .int 0, .int 0]))).set a (.inr (2, [.ref n, .null, .null, .null]))) ++ ([.inr (1, [.null, .int 0, .int 0])] : mj_H)) ++ ([.inl (400, .inl (fun _ => 0))] : mj_H)).set (n + 2) (.inr (1, [.ref (n + 3), .int 0, .int 0]))).set a (.inr (2, [.ref n, .ref (n + 2), .null, .null]))) ++ ([.inr (3, [.null])] : mj_H)) ++ ([.inr (1, [.null, .int 0, .int 0])] : mj_H)) ++ ([.inl (384, .inl (fun _ => 0))] : mj_H)).set (n + 5) (.inr (1, [.ref (n + 6), .int 0, .int 0]))).set (n + 4) (.inr (3, [.ref (n + 5)]))).set a (.inr (2, [.ref n, .ref (n + 2), .ref (n + 4), .null]))) ++ ([.inr (6, [.null])] : mj_H)) ++ ([.inl (32, .inl (fun _ => 0))] : mj_H)).set (n + 7) (.inr (6, [.ref (n + 8)]))).set a (.inr (2, [.ref n, .ref (n + 2), .ref (n + 4), .ref (n + 7)])))) := by
  have han : a < n := by rw [← hn]; exact (List.getElem?_eq_some_iff.mp ha).1
  refine mj_enter (r := 0) rfl rfl (by decide) rfl ?_
  show mj_W M_Co_init _ _ _ _ 0 [some (.ref a)] [] h
  refine mj_aload_n d_Co_init_0 rfl ?_
  refine mj_objInit d_Co_init_1 ml_Co_3 im_Ob_init cd_Ob_init (by decide) (Nat.le_of_ble_eq_true rfl) ?_
  refine mj_aload_n d_Co_init_4 rfl ?_
  refine mj_new (kc := 8) (ks := 1208) (fs := [.null, .int 0, .int 0]) ok_By cl_Co_9 ia_By in_By d_Co_init_5 nf_By (fun _ => rfl) ?_
  refine mj_ra hn ?_
  obtain ⟨hh1, e_hh1⟩ : ∃ q_ : mj_H, q_ = h ++ [.inr (1, [.null, .int 0, .int 0])] := ⟨_, rfl⟩
  refine mj_hp e_hh1 ?_
  have k2 := mj_al (t := [.inr (1, [.null, .int 0, .int 0])]) ha
  rw [← e_hh1] at k2
  have k3 := mj_ae (x := .inr (1, [.null, .int 0, .int 0])) hn
  rw [← e_hh1] at k3
  have l4 := mj_an (x := .inr (1, [.null, .int 0, .int 0])) hn
  rw [← e_hh1] at l4
  refine mj_dup d_Co_init_8 rfl ?_
  refine mj_sipush (v := 384) d_Co_init_9 (by decide) ?_
  refine mj_cI (kc := 7) (ks := 824) (S := [.ref n, .ref a]) (S1 := [.ref n, .ref a]) (c_By_initK (k := 384) k3 l4 (by decide)) rfl rfl d_Co_init_12 cw_By_init ml_Co_11 im_By_init (by decide) rfl (Nat.le_of_ble_eq_true rfl) rfl rfl ?_
  obtain ⟨hh5, e_hh5⟩ : ∃ q_ : mj_H, q_ = hh1 ++ ([.inl (384, .inl (fun _ => 0))] : mj_H) := ⟨_, rfl⟩
  have k6 := mj_al (t := [.inl (384, .inl (fun _ => 0))]) k2
  rw [← e_hh5] at k6
  have k7 := mj_al (t := [.inl (384, .inl (fun _ => 0))]) k3
  rw [← e_hh5] at k7
  have k8 := mj_ae (x := .inl (384, .inl (fun _ => 0))) l4
  rw [← e_hh5] at k8
  have l9 := mj_an (x := .inl (384, .inl (fun _ => 0))) l4
  rw [← e_hh5] at l9
  obtain ⟨hh10, e_hh10⟩ : ∃ q_ : mj_H, q_ = hh5.set n (.inr (1, [.ref (n + 1), .int 0, .int 0])) := ⟨_, rfl⟩
  have k11 := mj_sN (y := .inr (1, [.ref (n + 1), .int 0, .int 0])) (show (n : Nat) ≠ a from (Nat.ne_of_lt (Nat.lt_of_lt_of_le han (Nat.le_add_right n 0))).symm) k6
  rw [← e_hh10] at k11
  have k12 : hh10[n]? = some (.inr (1, [.ref (n + 1), .int 0, .int 0])) := by rw [e_hh10]; exact mj_sS k7
  have k13 := mj_sN (y := .inr (1, [.ref (n + 1), .int 0, .int 0])) (show (n : Nat) ≠ (n + 1) from fun h9 => absurd (Nat.add_left_cancel (show n + 0 = n + 1 from h9)) (by decide)) k8
  rw [← e_hh10] at k13
  have l14 : hh10.length = (n + 2) := by rw [e_hh10, List.length_set]; exact l9
  refine mj_hp (h1 := hh10) (by rw [e_hh10, e_hh5]) ?_
  refine mj_putF ok_Co (k := 0) (by decide) fl_Co_14 rfl rfl rfl (fun _ => rfl) (fun _ => rfl) (Nat.le_of_ble_eq_true rfl) d_Co_init_15 k11 ?_
  obtain ⟨hh15, e_hh15⟩ : ∃ q_ : mj_H, q_ = hh10.set a (.inr (2, [.ref n, .null, .null, .null])) := ⟨_, rfl⟩
  refine mj_hp e_hh15 ?_
  have k16 : hh15[a]? = some (.inr (2, [.ref n, .null, .null, .null])) := by rw [e_hh15]; exact mj_sS k11
  have k17 := mj_sN (y := .inr (2, [.ref n, .null, .null, .null])) (show (a : Nat) ≠ n from Nat.ne_of_lt (Nat.lt_of_lt_of_le han (Nat.le_add_right n 0))) k12
  rw [← e_hh15] at k17
  have k18 := mj_sN (y := .inr (2, [.ref n, .null, .null, .null])) (show (a : Nat) ≠ (n + 1) from Nat.ne_of_lt (Nat.lt_of_lt_of_le han (Nat.le_add_right n 1))) k13
  rw [← e_hh15] at k18
  have l19 : hh15.length = (n + 2) := by rw [e_hh15, List.length_set]; exact l14
  refine mj_aload_n d_Co_init_18 rfl ?_
  refine mj_new (kc := 6) (ks := 821) (fs := [.null, .int 0, .int 0]) ok_By cl_Co_9 ia_By in_By d_Co_init_19 nf_By (fun _ => rfl) ?_
  refine mj_ra l19 ?_
  obtain ⟨hh20, e_hh20⟩ : ∃ q_ : mj_H, q_ = hh15 ++ [.inr (1, [.null, .int 0, .int 0])] := ⟨_, rfl⟩
  refine mj_hp e_hh20 ?_
  have k21 := mj_al (t := [.inr (1, [.null, .int 0, .int 0])]) k16
  rw [← e_hh20] at k21
  have k22 := mj_al (t := [.inr (1, [.null, .int 0, .int 0])]) k17
  rw [← e_hh20] at k22
  have k23 := mj_al (t := [.inr (1, [.null, .int 0, .int 0])]) k18
  rw [← e_hh20] at k23
  have k24 := mj_ae (x := .inr (1, [.null, .int 0, .int 0])) l19
  rw [← e_hh20] at k24
  have l25 := mj_an (x := .inr (1, [.null, .int 0, .int 0])) l19
  rw [← e_hh20] at l25
  refine mj_dup d_Co_init_22 rfl ?_
  refine mj_sipush (v := 400) d_Co_init_23 (by decide) ?_
  refine mj_cI (kc := 5) (ks := 421) (S := [.ref (n + 2), .ref a]) (S1 := [.ref (n + 2), .ref a]) (c_By_initK (k := 400) k24 l25 (by decide)) rfl rfl d_Co_init_26 cw_By_init ml_Co_11 im_By_init (by decide) rfl (Nat.le_of_ble_eq_true rfl) rfl rfl ?_
  obtain ⟨hh26, e_hh26⟩ : ∃ q_ : mj_H, q_ = hh20 ++ ([.inl (400, .inl (fun _ => 0))] : mj_H) := ⟨_, rfl⟩
  have k27 := mj_al (t := [.inl (400, .inl (fun _ => 0))]) k21
  rw [← e_hh26] at k27
  have k28 := mj_al (t := [.inl (400, .inl (fun _ => 0))]) k22
  rw [← e_hh26] at k28
  have k29 := mj_al (t := [.inl (400, .inl (fun _ => 0))]) k23
  rw [← e_hh26] at k29
  have k30 := mj_al (t := [.inl (400, .inl (fun _ => 0))]) k24
  rw [← e_hh26] at k30
  have k31 := mj_ae (x := .inl (400, .inl (fun _ => 0))) l25
  rw [← e_hh26] at k31
  have l32 := mj_an (x := .inl (400, .inl (fun _ => 0))) l25
  rw [← e_hh26] at l32
  obtain ⟨hh33, e_hh33⟩ : ∃ q_ : mj_H, q_ = hh26.set (n + 2) (.inr (1, [.ref (n + 3), .int 0, .int 0])) := ⟨_, rfl⟩
  have k34 := mj_sN (y := .inr (1, [.ref (n + 3), .int 0, .int 0])) (show ((n + 2) : Nat) ≠ a from (Nat.ne_of_lt (Nat.lt_of_lt_of_le han (Nat.le_add_right n 2))).symm) k27
  rw [← e_hh33] at k34
  have k35 := mj_sN (y := .inr (1, [.ref (n + 3), .int 0, .int 0])) (show ((n + 2) : Nat) ≠ n from fun h9 => absurd (Nat.add_left_cancel (show n + 2 = n + 0 from h9)) (by decide)) k28
  rw [← e_hh33] at k35
  have k36 := mj_sN (y := .inr (1, [.ref (n + 3), .int 0, .int 0])) (show ((n + 2) : Nat) ≠ (n + 1) from fun h9 => absurd (Nat.add_left_cancel (show n + 2 = n + 1 from h9)) (by decide)) k29
  rw [← e_hh33] at k36
  have k37 : hh33[(n + 2)]? = some (.inr (1, [.ref (n + 3), .int 0, .int 0])) := by rw [e_hh33]; exact mj_sS k30
  have k38 := mj_sN (y := .inr (1, [.ref (n + 3), .int 0, .int 0])) (show ((n + 2) : Nat) ≠ (n + 3) from fun h9 => absurd (Nat.add_left_cancel (show n + 2 = n + 3 from h9)) (by decide)) k31
  rw [← e_hh33] at k38
  have l39 : hh33.length = (n + 4) := by rw [e_hh33, List.length_set]; exact l32
  refine mj_hp (h1 := hh33) (by rw [e_hh33, e_hh26]) ?_
  refine mj_putF ok_Co (k := 1) (by decide) fl_Co_20 rfl rfl rfl (fun _ => rfl) (fun _ => rfl) (Nat.le_of_ble_eq_true rfl) d_Co_init_29 k34 ?_
  obtain ⟨hh40, e_hh40⟩ : ∃ q_ : mj_H, q_ = hh33.set a (.inr (2, [.ref n, .ref (n + 2), .null, .null])) := ⟨_, rfl⟩
  refine mj_hp e_hh40 ?_
  have k41 : hh40[a]? = some (.inr (2, [.ref n, .ref (n + 2), .null, .null])) := by rw [e_hh40]; exact mj_sS k34
  have k42 := mj_sN (y := .inr (2, [.ref n, .ref (n + 2), .null, .null])) (show (a : Nat) ≠ n from Nat.ne_of_lt (Nat.lt_of_lt_of_le han (Nat.le_add_right n 0))) k35
  rw [← e_hh40] at k42
  have k43 := mj_sN (y := .inr (2, [.ref n, .ref (n + 2), .null, .null])) (show (a : Nat) ≠ (n + 1) from Nat.ne_of_lt (Nat.lt_of_lt_of_le han (Nat.le_add_right n 1))) k36
  rw [← e_hh40] at k43
  have k44 := mj_sN (y := .inr (2, [.ref n, .ref (n + 2), .null, .null])) (show (a : Nat) ≠ (n + 2) from Nat.ne_of_lt (Nat.lt_of_lt_of_le han (Nat.le_add_right n 2))) k37
  rw [← e_hh40] at k44
  have k45 := mj_sN (y := .inr (2, [.ref n, .ref (n + 2), .null, .null])) (show (a : Nat) ≠ (n + 3) from Nat.ne_of_lt (Nat.lt_of_lt_of_le han (Nat.le_add_right n 3))) k38
  rw [← e_hh40] at k45
  have l46 : hh40.length = (n + 4) := by rw [e_hh40, List.length_set]; exact l39
  refine mj_aload_n d_Co_init_32 rfl ?_
  refine mj_new (kc := 4) (ks := 420) (fs := [.null]) ok_Pa cl_Co_23 ia_Pa in_Pa d_Co_init_33 nf_Pa (fun _ => rfl) ?_
  refine mj_ra l46 ?_
  obtain ⟨hh47, e_hh47⟩ : ∃ q_ : mj_H, q_ = hh40 ++ [.inr (3, [.null])] := ⟨_, rfl⟩
  refine mj_hp e_hh47 ?_
  have k48 := mj_al (t := [.inr (3, [.null])]) k41
  rw [← e_hh47] at k48
  have k49 := mj_al (t := [.inr (3, [.null])]) k42
  rw [← e_hh47] at k49
  have k50 := mj_al (t := [.inr (3, [.null])]) k43
  rw [← e_hh47] at k50
  have k51 := mj_al (t := [.inr (3, [.null])]) k44
  rw [← e_hh47] at k51
  have k52 := mj_al (t := [.inr (3, [.null])]) k45
  rw [← e_hh47] at k52
  have k53 := mj_ae (x := .inr (3, [.null])) l46
  rw [← e_hh47] at k53
  have l54 := mj_an (x := .inr (3, [.null])) l46
  rw [← e_hh47] at l54
  refine mj_dup d_Co_init_36 rfl ?_
  refine mj_cIN (kc := 2) (ks := 33) (S := [.ref (n + 4), .ref a]) (S1 := [.ref (n + 4), .ref a]) (c_Pa_init k53 l54) rfl rfl d_Co_init_37 cw_Pa_init mn_Co_25 im_Pa_init (by decide) rfl (Nat.le_of_ble_eq_true rfl) rfl rfl ?_
  obtain ⟨hh55, e_hh55⟩ : ∃ q_ : mj_H, q_ = hh47 ++ ([.inr (1, [.null, .int 0, .int 0])] : mj_H) := ⟨_, rfl⟩
  have k56 := mj_al (t := [.inr (1, [.null, .int 0, .int 0])]) k48
  rw [← e_hh55] at k56
  have k57 := mj_al (t := [.inr (1, [.null, .int 0, .int 0])]) k49
  rw [← e_hh55] at k57
  have k58 := mj_al (t := [.inr (1, [.null, .int 0, .int 0])]) k50
  rw [← e_hh55] at k58
  have k59 := mj_al (t := [.inr (1, [.null, .int 0, .int 0])]) k51
  rw [← e_hh55] at k59
  have k60 := mj_al (t := [.inr (1, [.null, .int 0, .int 0])]) k52
  rw [← e_hh55] at k60
  have k61 := mj_al (t := [.inr (1, [.null, .int 0, .int 0])]) k53
  rw [← e_hh55] at k61
  have k62 := mj_ae (x := .inr (1, [.null, .int 0, .int 0])) l54
  rw [← e_hh55] at k62
  have l63 := mj_an (x := .inr (1, [.null, .int 0, .int 0])) l54
  rw [← e_hh55] at l63
  obtain ⟨hh64, e_hh64⟩ : ∃ q_ : mj_H, q_ = hh55 ++ ([.inl (384, .inl (fun _ => 0))] : mj_H) := ⟨_, rfl⟩
  have k65 := mj_al (t := [.inl (384, .inl (fun _ => 0))]) k56
  rw [← e_hh64] at k65
  have k66 := mj_al (t := [.inl (384, .inl (fun _ => 0))]) k57
  rw [← e_hh64] at k66
  have k67 := mj_al (t := [.inl (384, .inl (fun _ => 0))]) k58
  rw [← e_hh64] at k67
  have k68 := mj_al (t := [.inl (384, .inl (fun _ => 0))]) k59
  rw [← e_hh64] at k68
  have k69 := mj_al (t := [.inl (384, .inl (fun _ => 0))]) k60
  rw [← e_hh64] at k69
  have k70 := mj_al (t := [.inl (384, .inl (fun _ => 0))]) k61
  rw [← e_hh64] at k70
  have k71 := mj_al (t := [.inl (384, .inl (fun _ => 0))]) k62
  rw [← e_hh64] at k71
  have k72 := mj_ae (x := .inl (384, .inl (fun _ => 0))) l63
  rw [← e_hh64] at k72
  have l73 := mj_an (x := .inl (384, .inl (fun _ => 0))) l63
  rw [← e_hh64] at l73
  obtain ⟨hh74, e_hh74⟩ : ∃ q_ : mj_H, q_ = hh64.set (n + 5) (.inr (1, [.ref (n + 6), .int 0, .int 0])) := ⟨_, rfl⟩
  have k75 := mj_sN (y := .inr (1, [.ref (n + 6), .int 0, .int 0])) (show ((n + 5) : Nat) ≠ a from (Nat.ne_of_lt (Nat.lt_of_lt_of_le han (Nat.le_add_right n 5))).symm) k65
  rw [← e_hh74] at k75
  have k76 := mj_sN (y := .inr (1, [.ref (n + 6), .int 0, .int 0])) (show ((n + 5) : Nat) ≠ n from fun h9 => absurd (Nat.add_left_cancel (show n + 5 = n + 0 from h9)) (by decide)) k66
  rw [← e_hh74] at k76
  have k77 := mj_sN (y := .inr (1, [.ref (n + 6), .int 0, .int 0])) (show ((n + 5) : Nat) ≠ (n + 1) from fun h9 => absurd (Nat.add_left_cancel (show n + 5 = n + 1 from h9)) (by decide)) k67
  rw [← e_hh74] at k77
  have k78 := mj_sN (y := .inr (1, [.ref (n + 6), .int 0, .int 0])) (show ((n + 5) : Nat) ≠ (n + 2) from fun h9 => absurd (Nat.add_left_cancel (show n + 5 = n + 2 from h9)) (by decide)) k68
  rw [← e_hh74] at k78
  have k79 := mj_sN (y := .inr (1, [.ref (n + 6), .int 0, .int 0])) (show ((n + 5) : Nat) ≠ (n + 3) from fun h9 => absurd (Nat.add_left_cancel (show n + 5 = n + 3 from h9)) (by decide)) k69
  rw [← e_hh74] at k79
  have k80 := mj_sN (y := .inr (1, [.ref (n + 6), .int 0, .int 0])) (show ((n + 5) : Nat) ≠ (n + 4) from fun h9 => absurd (Nat.add_left_cancel (show n + 5 = n + 4 from h9)) (by decide)) k70
  rw [← e_hh74] at k80
  have k81 : hh74[(n + 5)]? = some (.inr (1, [.ref (n + 6), .int 0, .int 0])) := by rw [e_hh74]; exact mj_sS k71
  have k82 := mj_sN (y := .inr (1, [.ref (n + 6), .int 0, .int 0])) (show ((n + 5) : Nat) ≠ (n + 6) from fun h9 => absurd (Nat.add_left_cancel (show n + 5 = n + 6 from h9)) (by decide)) k72
  rw [← e_hh74] at k82
  have l83 : hh74.length = (n + 7) := by rw [e_hh74, List.length_set]; exact l73
  obtain ⟨hh84, e_hh84⟩ : ∃ q_ : mj_H, q_ = hh74.set (n + 4) (.inr (3, [.ref (n + 5)])) := ⟨_, rfl⟩
  have k85 := mj_sN (y := .inr (3, [.ref (n + 5)])) (show ((n + 4) : Nat) ≠ a from (Nat.ne_of_lt (Nat.lt_of_lt_of_le han (Nat.le_add_right n 4))).symm) k75
  rw [← e_hh84] at k85
  have k86 := mj_sN (y := .inr (3, [.ref (n + 5)])) (show ((n + 4) : Nat) ≠ n from fun h9 => absurd (Nat.add_left_cancel (show n + 4 = n + 0 from h9)) (by decide)) k76
  rw [← e_hh84] at k86
  have k87 := mj_sN (y := .inr (3, [.ref (n + 5)])) (show ((n + 4) : Nat) ≠ (n + 1) from fun h9 => absurd (Nat.add_left_cancel (show n + 4 = n + 1 from h9)) (by decide)) k77
  rw [← e_hh84] at k87
  have k88 := mj_sN (y := .inr (3, [.ref (n + 5)])) (show ((n + 4) : Nat) ≠ (n + 2) from fun h9 => absurd (Nat.add_left_cancel (show n + 4 = n + 2 from h9)) (by decide)) k78
  rw [← e_hh84] at k88
  have k89 := mj_sN (y := .inr (3, [.ref (n + 5)])) (show ((n + 4) : Nat) ≠ (n + 3) from fun h9 => absurd (Nat.add_left_cancel (show n + 4 = n + 3 from h9)) (by decide)) k79
  rw [← e_hh84] at k89
  have k90 : hh84[(n + 4)]? = some (.inr (3, [.ref (n + 5)])) := by rw [e_hh84]; exact mj_sS k80
  have k91 := mj_sN (y := .inr (3, [.ref (n + 5)])) (show ((n + 4) : Nat) ≠ (n + 5) from fun h9 => absurd (Nat.add_left_cancel (show n + 4 = n + 5 from h9)) (by decide)) k81
  rw [← e_hh84] at k91
  have k92 := mj_sN (y := .inr (3, [.ref (n + 5)])) (show ((n + 4) : Nat) ≠ (n + 6) from fun h9 => absurd (Nat.add_left_cancel (show n + 4 = n + 6 from h9)) (by decide)) k82
  rw [← e_hh84] at k92
  have l93 : hh84.length = (n + 7) := by rw [e_hh84, List.length_set]; exact l83
  refine mj_hp (h1 := hh84) (by rw [e_hh84, e_hh74, e_hh64, e_hh55]) ?_
  refine mj_putF ok_Co (k := 2) (by decide) fl_Co_26 rfl rfl rfl (fun _ => rfl) (fun _ => rfl) (Nat.le_of_ble_eq_true rfl) d_Co_init_40 k85 ?_
  obtain ⟨hh94, e_hh94⟩ : ∃ q_ : mj_H, q_ = hh84.set a (.inr (2, [.ref n, .ref (n + 2), .ref (n + 4), .null])) := ⟨_, rfl⟩
  refine mj_hp e_hh94 ?_
  have k95 : hh94[a]? = some (.inr (2, [.ref n, .ref (n + 2), .ref (n + 4), .null])) := by rw [e_hh94]; exact mj_sS k85
  have k96 := mj_sN (y := .inr (2, [.ref n, .ref (n + 2), .ref (n + 4), .null])) (show (a : Nat) ≠ n from Nat.ne_of_lt (Nat.lt_of_lt_of_le han (Nat.le_add_right n 0))) k86
  rw [← e_hh94] at k96
  have k97 := mj_sN (y := .inr (2, [.ref n, .ref (n + 2), .ref (n + 4), .null])) (show (a : Nat) ≠ (n + 1) from Nat.ne_of_lt (Nat.lt_of_lt_of_le han (Nat.le_add_right n 1))) k87
  rw [← e_hh94] at k97
  have k98 := mj_sN (y := .inr (2, [.ref n, .ref (n + 2), .ref (n + 4), .null])) (show (a : Nat) ≠ (n + 2) from Nat.ne_of_lt (Nat.lt_of_lt_of_le han (Nat.le_add_right n 2))) k88
  rw [← e_hh94] at k98
  have k99 := mj_sN (y := .inr (2, [.ref n, .ref (n + 2), .ref (n + 4), .null])) (show (a : Nat) ≠ (n + 3) from Nat.ne_of_lt (Nat.lt_of_lt_of_le han (Nat.le_add_right n 3))) k89
  rw [← e_hh94] at k99
  have k100 := mj_sN (y := .inr (2, [.ref n, .ref (n + 2), .ref (n + 4), .null])) (show (a : Nat) ≠ (n + 4) from Nat.ne_of_lt (Nat.lt_of_lt_of_le han (Nat.le_add_right n 4))) k90
  rw [← e_hh94] at k100
  have k101 := mj_sN (y := .inr (2, [.ref n, .ref (n + 2), .ref (n + 4), .null])) (show (a : Nat) ≠ (n + 5) from Nat.ne_of_lt (Nat.lt_of_lt_of_le han (Nat.le_add_right n 5))) k91
  rw [← e_hh94] at k101
  have k102 := mj_sN (y := .inr (2, [.ref n, .ref (n + 2), .ref (n + 4), .null])) (show (a : Nat) ≠ (n + 6) from Nat.ne_of_lt (Nat.lt_of_lt_of_le han (Nat.le_add_right n 6))) k92
  rw [← e_hh94] at k102
  have l103 : hh94.length = (n + 7) := by rw [e_hh94, List.length_set]; exact l93
  refine mj_aload_n d_Co_init_43 rfl ?_
  refine mj_new (kc := 1) (ks := 32) (fs := [.null]) ok_Wv cl_Co_30 ia_Wv in_Wv d_Co_init_44 nf_Wv (fun _ => rfl) ?_
  refine mj_ra l103 ?_
  obtain ⟨hh104, e_hh104⟩ : ∃ q_ : mj_H, q_ = hh94 ++ [.inr (6, [.null])] := ⟨_, rfl⟩
  refine mj_hp e_hh104 ?_
  have k105 := mj_al (t := [.inr (6, [.null])]) k95
  rw [← e_hh104] at k105
  have k106 := mj_al (t := [.inr (6, [.null])]) k96
  rw [← e_hh104] at k106
  have k107 := mj_al (t := [.inr (6, [.null])]) k97
  rw [← e_hh104] at k107
  have k108 := mj_al (t := [.inr (6, [.null])]) k98
  rw [← e_hh104] at k108
  have k109 := mj_al (t := [.inr (6, [.null])]) k99
  rw [← e_hh104] at k109
  have k110 := mj_al (t := [.inr (6, [.null])]) k100
  rw [← e_hh104] at k110
  have k111 := mj_al (t := [.inr (6, [.null])]) k101
  rw [← e_hh104] at k111
  have k112 := mj_al (t := [.inr (6, [.null])]) k102
  rw [← e_hh104] at k112
  have k113 := mj_ae (x := .inr (6, [.null])) l103
  rw [← e_hh104] at k113
  have l114 := mj_an (x := .inr (6, [.null])) l103
  rw [← e_hh104] at l114
  refine mj_dup d_Co_init_47 rfl ?_
  refine mj_cIN (kc := 0) (ks := 0) (S := [.ref (n + 7), .ref a]) (S1 := [.ref (n + 7), .ref a]) (c_Wv_init k113 l114) rfl rfl d_Co_init_48 cw_Wv_init mn_Co_32 im_Wv_init (by decide) rfl (Nat.le_of_ble_eq_true rfl) rfl rfl ?_
  obtain ⟨hh115, e_hh115⟩ : ∃ q_ : mj_H, q_ = hh104 ++ ([.inl (32, .inl (fun _ => 0))] : mj_H) := ⟨_, rfl⟩
  have k116 := mj_al (t := [.inl (32, .inl (fun _ => 0))]) k105
  rw [← e_hh115] at k116
  have k117 := mj_al (t := [.inl (32, .inl (fun _ => 0))]) k106
  rw [← e_hh115] at k117
  have k118 := mj_al (t := [.inl (32, .inl (fun _ => 0))]) k107
  rw [← e_hh115] at k118
  have k119 := mj_al (t := [.inl (32, .inl (fun _ => 0))]) k108
  rw [← e_hh115] at k119
  have k120 := mj_al (t := [.inl (32, .inl (fun _ => 0))]) k109
  rw [← e_hh115] at k120
  have k121 := mj_al (t := [.inl (32, .inl (fun _ => 0))]) k110
  rw [← e_hh115] at k121
  have k122 := mj_al (t := [.inl (32, .inl (fun _ => 0))]) k111
  rw [← e_hh115] at k122
  have k123 := mj_al (t := [.inl (32, .inl (fun _ => 0))]) k112
  rw [← e_hh115] at k123
  have k124 := mj_al (t := [.inl (32, .inl (fun _ => 0))]) k113
  rw [← e_hh115] at k124
  have k125 := mj_ae (x := .inl (32, .inl (fun _ => 0))) l114
  rw [← e_hh115] at k125
  have l126 := mj_an (x := .inl (32, .inl (fun _ => 0))) l114
  rw [← e_hh115] at l126
  obtain ⟨hh127, e_hh127⟩ : ∃ q_ : mj_H, q_ = hh115.set (n + 7) (.inr (6, [.ref (n + 8)])) := ⟨_, rfl⟩
  have k128 := mj_sN (y := .inr (6, [.ref (n + 8)])) (show ((n + 7) : Nat) ≠ a from (Nat.ne_of_lt (Nat.lt_of_lt_of_le han (Nat.le_add_right n 7))).symm) k116
  rw [← e_hh127] at k128
  have k129 := mj_sN (y := .inr (6, [.ref (n + 8)])) (show ((n + 7) : Nat) ≠ n from fun h9 => absurd (Nat.add_left_cancel (show n + 7 = n + 0 from h9)) (by decide)) k117
  rw [← e_hh127] at k129
  have k130 := mj_sN (y := .inr (6, [.ref (n + 8)])) (show ((n + 7) : Nat) ≠ (n + 1) from fun h9 => absurd (Nat.add_left_cancel (show n + 7 = n + 1 from h9)) (by decide)) k118
  rw [← e_hh127] at k130
  have k131 := mj_sN (y := .inr (6, [.ref (n + 8)])) (show ((n + 7) : Nat) ≠ (n + 2) from fun h9 => absurd (Nat.add_left_cancel (show n + 7 = n + 2 from h9)) (by decide)) k119
  rw [← e_hh127] at k131
  have k132 := mj_sN (y := .inr (6, [.ref (n + 8)])) (show ((n + 7) : Nat) ≠ (n + 3) from fun h9 => absurd (Nat.add_left_cancel (show n + 7 = n + 3 from h9)) (by decide)) k120
  rw [← e_hh127] at k132
  have k133 := mj_sN (y := .inr (6, [.ref (n + 8)])) (show ((n + 7) : Nat) ≠ (n + 4) from fun h9 => absurd (Nat.add_left_cancel (show n + 7 = n + 4 from h9)) (by decide)) k121
  rw [← e_hh127] at k133
  have k134 := mj_sN (y := .inr (6, [.ref (n + 8)])) (show ((n + 7) : Nat) ≠ (n + 5) from fun h9 => absurd (Nat.add_left_cancel (show n + 7 = n + 5 from h9)) (by decide)) k122
  rw [← e_hh127] at k134
  have k135 := mj_sN (y := .inr (6, [.ref (n + 8)])) (show ((n + 7) : Nat) ≠ (n + 6) from fun h9 => absurd (Nat.add_left_cancel (show n + 7 = n + 6 from h9)) (by decide)) k123
  rw [← e_hh127] at k135
  have k136 : hh127[(n + 7)]? = some (.inr (6, [.ref (n + 8)])) := by rw [e_hh127]; exact mj_sS k124
  have k137 := mj_sN (y := .inr (6, [.ref (n + 8)])) (show ((n + 7) : Nat) ≠ (n + 8) from fun h9 => absurd (Nat.add_left_cancel (show n + 7 = n + 8 from h9)) (by decide)) k125
  rw [← e_hh127] at k137
  have l138 : hh127.length = (n + 9) := by rw [e_hh127, List.length_set]; exact l126
  refine mj_hp (h1 := hh127) (by rw [e_hh127, e_hh115]) ?_
  refine mj_putF ok_Co (k := 3) (by decide) fl_Co_33 rfl rfl rfl (fun _ => rfl) (fun _ => rfl) (Nat.le_of_ble_eq_true rfl) d_Co_init_51 k128 ?_
  obtain ⟨hh139, e_hh139⟩ : ∃ q_ : mj_H, q_ = hh127.set a (.inr (2, [.ref n, .ref (n + 2), .ref (n + 4), .ref (n + 7)])) := ⟨_, rfl⟩
  refine mj_hp e_hh139 ?_
  have k140 : hh139[a]? = some (.inr (2, [.ref n, .ref (n + 2), .ref (n + 4), .ref (n + 7)])) := by rw [e_hh139]; exact mj_sS k128
  have k141 := mj_sN (y := .inr (2, [.ref n, .ref (n + 2), .ref (n + 4), .ref (n + 7)])) (show (a : Nat) ≠ n from Nat.ne_of_lt (Nat.lt_of_lt_of_le han (Nat.le_add_right n 0))) k129
  rw [← e_hh139] at k141
  have k142 := mj_sN (y := .inr (2, [.ref n, .ref (n + 2), .ref (n + 4), .ref (n + 7)])) (show (a : Nat) ≠ (n + 1) from Nat.ne_of_lt (Nat.lt_of_lt_of_le han (Nat.le_add_right n 1))) k130
  rw [← e_hh139] at k142
  have k143 := mj_sN (y := .inr (2, [.ref n, .ref (n + 2), .ref (n + 4), .ref (n + 7)])) (show (a : Nat) ≠ (n + 2) from Nat.ne_of_lt (Nat.lt_of_lt_of_le han (Nat.le_add_right n 2))) k131
  rw [← e_hh139] at k143
  have k144 := mj_sN (y := .inr (2, [.ref n, .ref (n + 2), .ref (n + 4), .ref (n + 7)])) (show (a : Nat) ≠ (n + 3) from Nat.ne_of_lt (Nat.lt_of_lt_of_le han (Nat.le_add_right n 3))) k132
  rw [← e_hh139] at k144
  have k145 := mj_sN (y := .inr (2, [.ref n, .ref (n + 2), .ref (n + 4), .ref (n + 7)])) (show (a : Nat) ≠ (n + 4) from Nat.ne_of_lt (Nat.lt_of_lt_of_le han (Nat.le_add_right n 4))) k133
  rw [← e_hh139] at k145
  have k146 := mj_sN (y := .inr (2, [.ref n, .ref (n + 2), .ref (n + 4), .ref (n + 7)])) (show (a : Nat) ≠ (n + 5) from Nat.ne_of_lt (Nat.lt_of_lt_of_le han (Nat.le_add_right n 5))) k134
  rw [← e_hh139] at k146
  have k147 := mj_sN (y := .inr (2, [.ref n, .ref (n + 2), .ref (n + 4), .ref (n + 7)])) (show (a : Nat) ≠ (n + 6) from Nat.ne_of_lt (Nat.lt_of_lt_of_le han (Nat.le_add_right n 6))) k135
  rw [← e_hh139] at k147
  have k148 := mj_sN (y := .inr (2, [.ref n, .ref (n + 2), .ref (n + 4), .ref (n + 7)])) (show (a : Nat) ≠ (n + 7) from Nat.ne_of_lt (Nat.lt_of_lt_of_le han (Nat.le_add_right n 7))) k136
  rw [← e_hh139] at k148
  have k149 := mj_sN (y := .inr (2, [.ref n, .ref (n + 2), .ref (n + 4), .ref (n + 7)])) (show (a : Nat) ≠ (n + 8) from Nat.ne_of_lt (Nat.lt_of_lt_of_le han (Nat.le_add_right n 8))) k137
  rw [← e_hh139] at k149
  have l150 : hh139.length = (n + 9) := by rw [e_hh139, List.length_set]; exact l138
  exact mj_vret rfl d_Co_init_54 ⟨rfl, by rw [e_hh139, e_hh127, e_hh115, e_hh104, e_hh94, e_hh84, e_hh74, e_hh64, e_hh55, e_hh47, e_hh40, e_hh33, e_hh26, e_hh20, e_hh15, e_hh10, e_hh5, e_hh1]⟩
