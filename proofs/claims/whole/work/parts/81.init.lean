theorem mj_al {h : mj_H} {a : Nat} {x : mj_C} {t : mj_H} (hx : h[a]? = some x) : (h ++ t)[a]? = some x := by
  rw [List.getElem?_append_left (List.getElem?_eq_some_iff.mp hx).1]
  exact hx
theorem mj_ae {h : mj_H} {n : Nat} {x : mj_C} (hn : h.length = n) : (h ++ [x])[n]? = some x := by
  subst hn
  rw [List.getElem?_append_right (Nat.le_refl _), Nat.sub_self]
  rfl
theorem mj_an {h : mj_H} {n : Nat} {x : mj_C} (hn : h.length = n) : (h ++ [x]).length = n + 1 := by rw [List.length_append, hn]; rfl
theorem mj_ra {M : mj_M} {Q : mj_E → mj_H → Prop} {d : mj_D} {kc ks pc n m : Nat} {L : List (Option Value)} {S : List Value} {h : mj_H} (e : m = n) (k : mj_W M Q d kc ks pc L (.ref n :: S) h) : mj_W M Q d kc ks pc L (.ref m :: S) h := e ▸ k
theorem nf_By : ∀ j, j < 3 → defaultValue (ty_By j) = vp_V [.null, .int 0, .int 0] j := by
  intro j hj
  have hj2 : j = 0 ∨ j = 1 ∨ j = 2 := by omega
  rcases hj2 with rfl | rfl | rfl <;> rfl
theorem nf_Co : ∀ j, j < 4 → defaultValue (ty_Co j) = vp_V [.null, .null, .null, .null] j := by
  intro j hj
  have hj2 : j = 0 ∨ j = 1 ∨ j = 2 ∨ j = 3 := by omega
  rcases hj2 with rfl | rfl | rfl | rfl <;> rfl
theorem nf_Pa : ∀ j, j < 1 → defaultValue (ty_Pa j) = vp_V [.null] j := by
  intro j hj
  have hj2 : j = 0 := by omega
  rcases hj2 with rfl <;> rfl
theorem nf_Wv : ∀ j, j < 1 → defaultValue (ty_Wv j) = vp_V [.null] j := by
  intro j hj
  have hj2 : j = 0 := by omega
  rcases hj2 with rfl <;> rfl
theorem nf_Wr : ∀ j, j < 0 → defaultValue (ty_Wr j) = vp_V [] j := fun j hj => absurd hj (Nat.not_lt_zero j)
theorem nf_Re : ∀ j, j < 5 → defaultValue (ty_Re j) = vp_V [.int 0, .int 0, .int 0, .null, .int 0] j := by
  intro j hj
  have hj2 : j = 0 ∨ j = 1 ∨ j = 2 ∨ j = 3 ∨ j = 4 := by omega
  rcases hj2 with rfl | rfl | rfl | rfl | rfl <;> rfl
theorem nf_Pi : ∀ j, j < 7 → defaultValue (ty_Pi j) = vp_V [.int 0, .int 0, .int 0, .null, .null, .null, .null] j := by
  intro j hj
  have hj2 : j = 0 ∨ j = 1 ∨ j = 2 ∨ j = 3 ∨ j = 4 ∨ j = 5 ∨ j = 6 := by omega
  rcases hj2 with rfl | rfl | rfl | rfl | rfl | rfl | rfl <;> rfl
theorem nf_RF : ∀ j, j < 7 → defaultValue (ty_RF j) = vp_V [.null, .null, .null, .null, .null, .null, .int 0] j := by
  intro j hj
  have hj2 : j = 0 ∨ j = 1 ∨ j = 2 ∨ j = 3 ∨ j = 4 ∨ j = 5 ∨ j = 6 := by omega
  rcases hj2 with rfl | rfl | rfl | rfl | rfl | rfl | rfl <;> rfl
set_option maxRecDepth 100000 in
set_option maxHeartbeats 4000000 in
theorem c_By_init {h : mj_H} {a n k : Nat} (ha : h[a]? = some (.inr (1, [.null, .int 0, .int 0]))) (hn : h.length = n) (hk : k < 2 ^ 20) : mj_Met M_By_init (1, 20, none) 1 (0 + k) [.ref a, .int (nI k)] h (mj_q none ((h ++ ([.inl (k, .inl (fun _ => 0))] : mj_H)).set a (.inr (1, [.ref n, .int 0, .int 0])))) := by
  have han : a < n := by rw [← hn]; exact (List.getElem?_eq_some_iff.mp ha).1
  refine mj_enter (r := 0) rfl rfl (by decide) rfl ?_
  show mj_W M_By_init _ _ _ _ 0 [some (.ref a), some (.int (nI k))] [] h
  refine mj_aload_n d_By_init_0 rfl ?_
  refine mj_objInit d_By_init_1 ml_By_1 im_Ob_init cd_Ob_init (by decide) (Nat.le_of_ble_eq_true rfl) ?_
  refine mj_aload_n d_By_init_4 rfl ?_
  refine mj_iload_n d_By_init_5 rfl ?_
  refine mj_newi (N := k) (kc := 0) (ks := 0) ac_int d_By_init_6 (nI_pos (by omega)) (nI_clamp (by omega)) (by show k * 4 ≤ 536870912; omega) ?_
  refine mj_ra hn ?_
  obtain ⟨hh1, e_hh1⟩ : ∃ q_ : mj_H, q_ = h ++ [.inl (k, .inl (fun _ => 0))] := ⟨_, rfl⟩
  refine mj_hp e_hh1 ?_
  have k2 := mj_al (t := [.inl (k, .inl (fun _ => 0))]) ha
  rw [← e_hh1] at k2
  have k3 := mj_ae (x := .inl (k, .inl (fun _ => 0))) hn
  rw [← e_hh1] at k3
  have l4 := mj_an (x := .inl (k, .inl (fun _ => 0))) hn
  rw [← e_hh1] at l4
  refine mj_putF ok_By (k := 0) (by decide) fl_By_7 rfl rfl rfl (fun _ => rfl) (fun _ => rfl) (Nat.le_of_ble_eq_true rfl) d_By_init_8 k2 ?_
  obtain ⟨hh5, e_hh5⟩ : ∃ q_ : mj_H, q_ = hh1.set a (.inr (1, [.ref n, .int 0, .int 0])) := ⟨_, rfl⟩
  refine mj_hp e_hh5 ?_
  have k6 : hh5[a]? = some (.inr (1, [.ref n, .int 0, .int 0])) := by rw [e_hh5]; exact mj_sS k2
  have k7 := mj_sN (y := .inr (1, [.ref n, .int 0, .int 0])) (show (a : Nat) ≠ n from Nat.ne_of_lt (Nat.lt_of_lt_of_le han (Nat.le_add_right n 0))) k3
  rw [← e_hh5] at k7
  have l8 : hh5.length = (n + 1) := by rw [e_hh5, List.length_set]; exact l4
  exact mj_vret rfl d_By_init_11 ⟨rfl, by rw [e_hh5, e_hh1]⟩
set_option maxRecDepth 100000 in
set_option maxHeartbeats 4000000 in
theorem c_Wv_init {h : mj_H} {a n : Nat} (ha : h[a]? = some (.inr (6, [.null]))) (hn : h.length = n) : mj_Met M_Wv_init (1, 20, none) 1 32 [.ref a] h (mj_q none ((h ++ ([.inl (32, .inl (fun _ => 0))] : mj_H)).set a (.inr (6, [.ref n])))) := by
  have han : a < n := by rw [← hn]; exact (List.getElem?_eq_some_iff.mp ha).1
  refine mj_enter (r := 0) rfl rfl (by decide) rfl ?_
  show mj_W M_Wv_init _ _ _ _ 0 [some (.ref a)] [] h
  refine mj_aload_n d_Wv_init_0 rfl ?_
  refine mj_objInit d_Wv_init_1 ml_Wv_3 im_Ob_init cd_Ob_init (by decide) (Nat.le_of_ble_eq_true rfl) ?_
  refine mj_aload_n d_Wv_init_4 rfl ?_
  refine mj_bipush (v := 32) d_Wv_init_5 (by decide) ?_
  refine mj_newi (N := 32) (kc := 0) (ks := 0) ac_int d_Wv_init_7 (by decide) (by decide) (by decide) ?_
  refine mj_ra hn ?_
  obtain ⟨hh1, e_hh1⟩ : ∃ q_ : mj_H, q_ = h ++ [.inl (32, .inl (fun _ => 0))] := ⟨_, rfl⟩
  refine mj_hp e_hh1 ?_
  have k2 := mj_al (t := [.inl (32, .inl (fun _ => 0))]) ha
  rw [← e_hh1] at k2
  have k3 := mj_ae (x := .inl (32, .inl (fun _ => 0))) hn
  rw [← e_hh1] at k3
  have l4 := mj_an (x := .inl (32, .inl (fun _ => 0))) hn
  rw [← e_hh1] at l4
  refine mj_putF ok_Wv (k := 0) (by decide) fl_Wv_9 rfl rfl rfl (fun _ => rfl) (fun _ => rfl) (Nat.le_of_ble_eq_true rfl) d_Wv_init_9 k2 ?_
  obtain ⟨hh5, e_hh5⟩ : ∃ q_ : mj_H, q_ = hh1.set a (.inr (6, [.ref n])) := ⟨_, rfl⟩
  refine mj_hp e_hh5 ?_
  have k6 : hh5[a]? = some (.inr (6, [.ref n])) := by rw [e_hh5]; exact mj_sS k2
  have k7 := mj_sN (y := .inr (6, [.ref n])) (show (a : Nat) ≠ n from Nat.ne_of_lt (Nat.lt_of_lt_of_le han (Nat.le_add_right n 0))) k3
  rw [← e_hh5] at k7
  have l8 : hh5.length = (n + 1) := by rw [e_hh5, List.length_set]; exact l4
  exact mj_vret rfl d_Wv_init_12 ⟨rfl, by rw [e_hh5, e_hh1]⟩
set_option maxRecDepth 100000 in
set_option maxHeartbeats 4000000 in
theorem c_Pi_init {h : mj_H} {a n : Nat} (ha : h[a]? = some (.inr (4, [.int 0, .int 0, .int 0, .null, .null, .null, .null]))) (hn : h.length = n) : mj_Met M_Pi_init (1, 20, none) 4 201 [.ref a] h (mj_q none ((((((((h ++ ([.inl (3, .inl (fun _ => 0))] : mj_H)).set a (.inr (4, [.int 0, .int 0, .int 0, .ref n, .null, .null, .null]))) ++ ([.inl (3, .inl (fun _ => 0))] : mj_H)).set a (.inr (4, [.int 0, .int 0, .int 0, .ref n, .ref (n + 1), .null, .null]))) ++ ([.inl (3, .inl (fun _ => 0))] : mj_H)).set a (.inr (4, [.int 0, .int 0, .int 0, .ref n, .ref (n + 1), .ref (n + 2), .null]))) ++ ([.inl (192, .inl (fun _ => 0))] : mj_H)).set a (.inr (4, [.int 0, .int 0, .int 0, .ref n, .ref (n + 1), .ref (n + 2), .ref (n + 3)])))) := by
  have han : a < n := by rw [← hn]; exact (List.getElem?_eq_some_iff.mp ha).1
  refine mj_enter (r := 0) rfl rfl (by decide) rfl ?_
  show mj_W M_Pi_init _ _ _ _ 0 [some (.ref a)] [] h
  refine mj_aload_n d_Pi_init_0 rfl ?_
  refine mj_objInit d_Pi_init_1 ml_Pi_3 im_Ob_init cd_Ob_init (by decide) (Nat.le_of_ble_eq_true rfl) ?_
  refine mj_aload_n d_Pi_init_4 rfl ?_
  refine mj_iconst (v := 3) d_Pi_init_5 (by decide) ?_
  refine mj_newi (N := 3) (kc := 3) (ks := 198) ac_int d_Pi_init_6 (by decide) (by decide) (by decide) ?_
  refine mj_ra hn ?_
  obtain ⟨hh1, e_hh1⟩ : ∃ q_ : mj_H, q_ = h ++ [.inl (3, .inl (fun _ => 0))] := ⟨_, rfl⟩
  refine mj_hp e_hh1 ?_
  have k2 := mj_al (t := [.inl (3, .inl (fun _ => 0))]) ha
  rw [← e_hh1] at k2
  have k3 := mj_ae (x := .inl (3, .inl (fun _ => 0))) hn
  rw [← e_hh1] at k3
  have l4 := mj_an (x := .inl (3, .inl (fun _ => 0))) hn
  rw [← e_hh1] at l4
  refine mj_putF ok_Pi (k := 3) (by decide) fl_Pi_9 rfl rfl rfl (fun _ => rfl) (fun _ => rfl) (Nat.le_of_ble_eq_true rfl) d_Pi_init_8 k2 ?_
  obtain ⟨hh5, e_hh5⟩ : ∃ q_ : mj_H, q_ = hh1.set a (.inr (4, [.int 0, .int 0, .int 0, .ref n, .null, .null, .null])) := ⟨_, rfl⟩
  refine mj_hp e_hh5 ?_
  have k6 : hh5[a]? = some (.inr (4, [.int 0, .int 0, .int 0, .ref n, .null, .null, .null])) := by rw [e_hh5]; exact mj_sS k2
  have k7 := mj_sN (y := .inr (4, [.int 0, .int 0, .int 0, .ref n, .null, .null, .null])) (show (a : Nat) ≠ n from Nat.ne_of_lt (Nat.lt_of_lt_of_le han (Nat.le_add_right n 0))) k3
  rw [← e_hh5] at k7
  have l8 : hh5.length = (n + 1) := by rw [e_hh5, List.length_set]; exact l4
  refine mj_aload_n d_Pi_init_11 rfl ?_
  refine mj_iconst (v := 3) d_Pi_init_12 (by decide) ?_
  refine mj_newi (N := 3) (kc := 2) (ks := 195) ac_int d_Pi_init_13 (by decide) (by decide) (by decide) ?_
  refine mj_ra l8 ?_
  obtain ⟨hh9, e_hh9⟩ : ∃ q_ : mj_H, q_ = hh5 ++ [.inl (3, .inl (fun _ => 0))] := ⟨_, rfl⟩
  refine mj_hp e_hh9 ?_
  have k10 := mj_al (t := [.inl (3, .inl (fun _ => 0))]) k6
  rw [← e_hh9] at k10
  have k11 := mj_al (t := [.inl (3, .inl (fun _ => 0))]) k7
  rw [← e_hh9] at k11
  have k12 := mj_ae (x := .inl (3, .inl (fun _ => 0))) l8
  rw [← e_hh9] at k12
  have l13 := mj_an (x := .inl (3, .inl (fun _ => 0))) l8
  rw [← e_hh9] at l13
  refine mj_putF ok_Pi (k := 4) (by decide) fl_Pi_15 rfl rfl rfl (fun _ => rfl) (fun _ => rfl) (Nat.le_of_ble_eq_true rfl) d_Pi_init_15 k10 ?_
  obtain ⟨hh14, e_hh14⟩ : ∃ q_ : mj_H, q_ = hh9.set a (.inr (4, [.int 0, .int 0, .int 0, .ref n, .ref (n + 1), .null, .null])) := ⟨_, rfl⟩
  refine mj_hp e_hh14 ?_
  have k15 : hh14[a]? = some (.inr (4, [.int 0, .int 0, .int 0, .ref n, .ref (n + 1), .null, .null])) := by rw [e_hh14]; exact mj_sS k10
  have k16 := mj_sN (y := .inr (4, [.int 0, .int 0, .int 0, .ref n, .ref (n + 1), .null, .null])) (show (a : Nat) ≠ n from Nat.ne_of_lt (Nat.lt_of_lt_of_le han (Nat.le_add_right n 0))) k11
  rw [← e_hh14] at k16
  have k17 := mj_sN (y := .inr (4, [.int 0, .int 0, .int 0, .ref n, .ref (n + 1), .null, .null])) (show (a : Nat) ≠ (n + 1) from Nat.ne_of_lt (Nat.lt_of_lt_of_le han (Nat.le_add_right n 1))) k12
  rw [← e_hh14] at k17
  have l18 : hh14.length = (n + 2) := by rw [e_hh14, List.length_set]; exact l13
  refine mj_aload_n d_Pi_init_18 rfl ?_
  refine mj_iconst (v := 3) d_Pi_init_19 (by decide) ?_
  refine mj_newi (N := 3) (kc := 1) (ks := 192) ac_int d_Pi_init_20 (by decide) (by decide) (by decide) ?_
  refine mj_ra l18 ?_
  obtain ⟨hh19, e_hh19⟩ : ∃ q_ : mj_H, q_ = hh14 ++ [.inl (3, .inl (fun _ => 0))] := ⟨_, rfl⟩
  refine mj_hp e_hh19 ?_
  have k20 := mj_al (t := [.inl (3, .inl (fun _ => 0))]) k15
  rw [← e_hh19] at k20
  have k21 := mj_al (t := [.inl (3, .inl (fun _ => 0))]) k16
  rw [← e_hh19] at k21
  have k22 := mj_al (t := [.inl (3, .inl (fun _ => 0))]) k17
  rw [← e_hh19] at k22
  have k23 := mj_ae (x := .inl (3, .inl (fun _ => 0))) l18
  rw [← e_hh19] at k23
  have l24 := mj_an (x := .inl (3, .inl (fun _ => 0))) l18
  rw [← e_hh19] at l24
  refine mj_putF ok_Pi (k := 5) (by decide) fl_Pi_18 rfl rfl rfl (fun _ => rfl) (fun _ => rfl) (Nat.le_of_ble_eq_true rfl) d_Pi_init_22 k20 ?_
  obtain ⟨hh25, e_hh25⟩ : ∃ q_ : mj_H, q_ = hh19.set a (.inr (4, [.int 0, .int 0, .int 0, .ref n, .ref (n + 1), .ref (n + 2), .null])) := ⟨_, rfl⟩
  refine mj_hp e_hh25 ?_
  have k26 : hh25[a]? = some (.inr (4, [.int 0, .int 0, .int 0, .ref n, .ref (n + 1), .ref (n + 2), .null])) := by rw [e_hh25]; exact mj_sS k20
  have k27 := mj_sN (y := .inr (4, [.int 0, .int 0, .int 0, .ref n, .ref (n + 1), .ref (n + 2), .null])) (show (a : Nat) ≠ n from Nat.ne_of_lt (Nat.lt_of_lt_of_le han (Nat.le_add_right n 0))) k21
  rw [← e_hh25] at k27
  have k28 := mj_sN (y := .inr (4, [.int 0, .int 0, .int 0, .ref n, .ref (n + 1), .ref (n + 2), .null])) (show (a : Nat) ≠ (n + 1) from Nat.ne_of_lt (Nat.lt_of_lt_of_le han (Nat.le_add_right n 1))) k22
  rw [← e_hh25] at k28
  have k29 := mj_sN (y := .inr (4, [.int 0, .int 0, .int 0, .ref n, .ref (n + 1), .ref (n + 2), .null])) (show (a : Nat) ≠ (n + 2) from Nat.ne_of_lt (Nat.lt_of_lt_of_le han (Nat.le_add_right n 2))) k23
  rw [← e_hh25] at k29
  have l30 : hh25.length = (n + 3) := by rw [e_hh25, List.length_set]; exact l24
  refine mj_aload_n d_Pi_init_25 rfl ?_
  refine mj_sipush (v := 192) d_Pi_init_26 (by decide) ?_
  refine mj_newi (N := 192) (kc := 0) (ks := 0) ac_int d_Pi_init_29 (by decide) (by decide) (by decide) ?_
  refine mj_ra l30 ?_
  obtain ⟨hh31, e_hh31⟩ : ∃ q_ : mj_H, q_ = hh25 ++ [.inl (192, .inl (fun _ => 0))] := ⟨_, rfl⟩
  refine mj_hp e_hh31 ?_
  have k32 := mj_al (t := [.inl (192, .inl (fun _ => 0))]) k26
  rw [← e_hh31] at k32
  have k33 := mj_al (t := [.inl (192, .inl (fun _ => 0))]) k27
  rw [← e_hh31] at k33
  have k34 := mj_al (t := [.inl (192, .inl (fun _ => 0))]) k28
  rw [← e_hh31] at k34
  have k35 := mj_al (t := [.inl (192, .inl (fun _ => 0))]) k29
  rw [← e_hh31] at k35
  have k36 := mj_ae (x := .inl (192, .inl (fun _ => 0))) l30
  rw [← e_hh31] at k36
  have l37 := mj_an (x := .inl (192, .inl (fun _ => 0))) l30
  rw [← e_hh31] at l37
  refine mj_putF ok_Pi (k := 6) (by decide) fl_Pi_21 rfl rfl rfl (fun _ => rfl) (fun _ => rfl) (Nat.le_of_ble_eq_true rfl) d_Pi_init_31 k32 ?_
  obtain ⟨hh38, e_hh38⟩ : ∃ q_ : mj_H, q_ = hh31.set a (.inr (4, [.int 0, .int 0, .int 0, .ref n, .ref (n + 1), .ref (n + 2), .ref (n + 3)])) := ⟨_, rfl⟩
  refine mj_hp e_hh38 ?_
  have k39 : hh38[a]? = some (.inr (4, [.int 0, .int 0, .int 0, .ref n, .ref (n + 1), .ref (n + 2), .ref (n + 3)])) := by rw [e_hh38]; exact mj_sS k32
  have k40 := mj_sN (y := .inr (4, [.int 0, .int 0, .int 0, .ref n, .ref (n + 1), .ref (n + 2), .ref (n + 3)])) (show (a : Nat) ≠ n from Nat.ne_of_lt (Nat.lt_of_lt_of_le han (Nat.le_add_right n 0))) k33
  rw [← e_hh38] at k40
  have k41 := mj_sN (y := .inr (4, [.int 0, .int 0, .int 0, .ref n, .ref (n + 1), .ref (n + 2), .ref (n + 3)])) (show (a : Nat) ≠ (n + 1) from Nat.ne_of_lt (Nat.lt_of_lt_of_le han (Nat.le_add_right n 1))) k34
  rw [← e_hh38] at k41
  have k42 := mj_sN (y := .inr (4, [.int 0, .int 0, .int 0, .ref n, .ref (n + 1), .ref (n + 2), .ref (n + 3)])) (show (a : Nat) ≠ (n + 2) from Nat.ne_of_lt (Nat.lt_of_lt_of_le han (Nat.le_add_right n 2))) k35
  rw [← e_hh38] at k42
  have k43 := mj_sN (y := .inr (4, [.int 0, .int 0, .int 0, .ref n, .ref (n + 1), .ref (n + 2), .ref (n + 3)])) (show (a : Nat) ≠ (n + 3) from Nat.ne_of_lt (Nat.lt_of_lt_of_le han (Nat.le_add_right n 3))) k36
  rw [← e_hh38] at k43
  have l44 : hh38.length = (n + 4) := by rw [e_hh38, List.length_set]; exact l37
  exact mj_vret rfl d_Pi_init_34 ⟨rfl, by rw [e_hh38, e_hh31, e_hh25, e_hh19, e_hh14, e_hh9, e_hh5, e_hh1]⟩
set_option maxRecDepth 100000 in
set_option maxHeartbeats 4000000 in
theorem c_Wr_init {h : mj_H} {a n : Nat} (ha : h[a]? = some (.inr (7, []))) (hn : h.length = n) : mj_Met M_Wr_init (1, 20, none) 0 0 [.ref a] h (mj_q none h) := by
  have han : a < n := by rw [← hn]; exact (List.getElem?_eq_some_iff.mp ha).1
  refine mj_enter (r := 0) rfl rfl (by decide) rfl ?_
  show mj_W M_Wr_init _ _ _ _ 0 [some (.ref a)] [] h
  refine mj_aload_n d_Wr_init_0 rfl ?_
  refine mj_objInit d_Wr_init_1 ml_Wr_3 im_Ob_init cd_Ob_init (by decide) (Nat.le_of_ble_eq_true rfl) ?_
  exact mj_vret rfl d_Wr_init_4 ⟨rfl, rfl⟩
