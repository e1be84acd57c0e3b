/-! the start -/
def rf_q0 : pi_P := (0, 0, 0, (fun _ => 0), (fun _ => 0), (fun _ => 0), (fun _ => 0))
def rf_p0 : pi_P := pi_add (pi_new rf_q0 1 1) 97 0 1
def rf_b0 : by_B := (0, 0, (fun _ => 0))
def rf_H0 : mj_H := [.inr (0, [.ref 1, .ref 3, .ref 13, .ref 14, .ref 17, .ref 22, .int (-2)]), .inr (1, [.ref 2, .int 0, .int 0]), .inl (1500, .inl (fun _ => 0)), .inr (2, [.ref 4, .ref 6, .ref 8, .ref 11]), .inr (1, [.ref 5, .int 0, .int 0]), .inl (384, .inl (fun _ => 0)), .inr (1, [.ref 7, .int 0, .int 0]), .inl (400, .inl (fun _ => 0)), .inr (3, [.ref 9]), .inr (1, [.ref 10, .int 0, .int 0]), .inl (384, .inl (fun _ => 0)), .inr (6, [.ref 12]), .inl (32, .inl (fun _ => 0)), .inr (7, []), .inr (5, [.int (-2), .int 0, .int 0, .ref 15, .int 0]), .inr (1, [.ref 16, .int 0, .int 0]), .inl (0, .inl (fun _ => 0)), pi_o 18 19 20 21 rf_p0, .inl (3, .inl rf_p0.2.2.2.1), .inl (3, .inl rf_p0.2.2.2.2.1), .inl (3, .inl rf_p0.2.2.2.2.2.1), .inl (192, .inl rf_p0.2.2.2.2.2.2), .inr (4, [.int 0, .int 0, .int 0, .ref 23, .ref 24, .ref 25, .ref 26]), .inl (3, .inl (fun _ => 0)), .inl (3, .inl (fun _ => 0)), .inl (3, .inl (fun _ => 0)), .inl (192, .inl (fun _ => 0))]
def rf_T0 : mj_H := [.inr (8, [.int 1, .int 1, .int 1, .int 0, .int (-2), .int 0, .ref 28, .ref 29, .ref 30, .ref 31, .ref 32, .ref 33, .ref 34, .ref 35, .ref 36, .ref 37, .ref 38, .ref 39, .int 0, .int 0, .int 0, .int 0, .int 0, .int 0, .int 0, .int 0, .int 0]), .inl (3, .inl (upd (fun _ => 0) 0 97)), .inl (3, .inl (fun _ => 0)), .inl (3, .inl (upd (fun _ => 0) 0 1)), .inl (192, .inl (fun _ => 0)), .inl (1500, .inl (fun _ => 0)), .inl (3, .inl (fun _ => 0)), .inl (3, .inl (fun _ => 0)), .inl (3, .inl (fun _ => 0)), .inl (192, .inl (fun _ => 0)), .inl (800, .inl (fun _ => 0)), .inl (1700, .inl (fun _ => 0)), .inl (64, .inl (fun _ => 0)), .inl (1, .inr (.inl (fun _ => 0))), .inl (1, .inr (.inr (.inr (.inl (fun _ => 0)))))]
theorem rf_l0 : rf_H0.length = 27 := rfl
theorem ob_0 (t : mj_H) : Ob (rf_H0 ++ t) rf_b0 (fun _ => 0) rf_b0 rf_b0 rf_b0 17 22 rf_p0 rf_q0 (-2) := by
  have bz : ∀ n : Nat, rf_b0.1 ≤ n := fun n => Nat.zero_le n
  have ok : pi_ok rf_p0 := fun c hc => by
    have h1 : c < 1 := hc
    have h0 : c = 0 := by omega
    subst h0
    exact Or.inl rfl
  refine ⟨rfl, ⟨rfl, rfl, bz _, by decide⟩, ⟨⟨⟨rfl, ⟨rfl, rfl, bz _, by decide⟩, ⟨rfl, rfl, rfl, rfl, rfl, by decide, ?_, ?_, ?_⟩, by decide, ok⟩, rfl, rfl⟩, ⟨rfl, rfl, rfl, bz _, by decide⟩, rfl, rfl, bz _, by decide⟩, ⟨rfl, rfl, rfl, rfl, rfl, by decide, Nat.zero_le _, Nat.zero_le _, Nat.zero_le _⟩, rfl, ⟨-2, 0, 0, 15, 0, rfl⟩, fun c hc => absurd hc (Nat.not_lt_zero c), fun k hk => absurd hk (Nat.not_lt_zero k), Or.inl ⟨rfl, rfl⟩⟩
  · show 1 ≤ 8
    decide
  · show 1 ≤ 8
    decide
  · show 1 ≤ 3
    decide
theorem rl_0 : RL mo_g0 rf_b0 rf_p0 (-2) := by
  refine ⟨⟨rfl, rfl, rfl, fun c hc => ?_, fun k hk => ?_⟩, ⟨⟨?_, ?_⟩, ⟨?_, ?_⟩, ?_, fun c hc => ?_⟩, fun c hc => ?_, ⟨rfl, fun k hk => absurd hk (Nat.not_lt_zero k), Nat.zero_le _, fun k hk => absurd hk (Nat.not_lt_zero k)⟩, rfl⟩
  · have h1 : c < 1 := hc
    have h0 : c = 0 := by omega
    subst h0
    exact ⟨rfl, rfl, rfl⟩
  · show (0 : Int32) = mj_fil 192 0 (fun _ => 0) 0 k
    unfold mj_fil
    split <;> rfl
  · show 1 ≤ 1
    decide
  · show 1 ≤ 8
    decide
  · show 1 ≤ 1
    decide
  · show 1 ≤ 8
    decide
  · show 1 ≤ 3
    decide
  · have h1 : c < 1 := hc
    have h0 : c = 0 := by omega
    subst h0
    exact ⟨Or.inl rfl, Or.inl rfl⟩
  · have h1 : c < 1 := hc
    have h0 : c = 0 := by omega
    subst h0
    exact ⟨97, by omega, by omega, rfl⟩
theorem li_0 : LI (rf_H0 ++ rf_T0) := ⟨rf_b0, (fun _ => 0), rf_b0, rf_b0, rf_b0, 17, 22, rf_p0, rf_q0, -2, mo_g0, ob_0 _, ⟨rfl, Nat.le_of_ble_eq_true rfl⟩, rl_0, ⟨_, rfl⟩, _, rfl⟩
set_option maxRecDepth 100000 in
set_option maxHeartbeats 4000000 in
theorem st_law {N : Nat} {xs : Nat → Int32} (hN : N ≤ 2560) : mj_W M_La_law (fun r _ => r = .inl (some (.int 1))) (11, 450, some (N, xs)) 554 10716 0 [some (.retAddr 1), none, none, none, none, none, none, none, none] [] [] := by
  refine mj_new (kc := 553) (ks := 10709) (fs := [.null, .null, .null, .null, .null, .null, .int 0]) ok_RF cl_La_8 ia_RF in_RF d_La_law_0 nf_RF (fun _ => rfl) ?_
  refine mj_ra (n := 0) rfl ?_
  refine mj_hp (h1 := [.inr (0, [.null, .null, .null, .null, .null, .null, .int 0])]) rfl ?_
  refine mj_dup d_La_law_3 rfl ?_
  refine mj_cI (kc := 527) (ks := 7567) (S := [.ref 0]) (S1 := [.ref 0]) (c_RF_init (h := [.inr (0, [.null, .null, .null, .null, .null, .null, .int 0])]) (a := 0) (n := 1) rfl rfl) rfl rfl d_La_law_4 cw_RF_init ml_La_60 im_RF_init ⟨Nat.le_of_ble_eq_true rfl, Nat.le_of_ble_eq_true rfl⟩ rfl (Nat.le_of_ble_eq_true rfl) rfl rfl ?_
  refine mj_hp (h1 := rf_H0) rfl ?_
  refine mj_astore_n d_La_law_7 (by decide) rfl rfl ?_
  refine mj_new (kc := 526) (ks := 7540) (fs := mo_f0) ok_Mo cl_La_61 ia_Mo in_Mo d_La_law_8 nf_Mo (fun _ => rfl) ?_
  refine mj_ra (n := 27) rf_l0 ?_
  refine mj_dup d_La_law_11 rfl ?_
  refine mj_cI (kc := 514) (ks := 3074) (S := [.ref 27]) (S1 := [.ref 27]) (c_Mo_init (X := rf_H0) rf_l0) rfl rfl d_La_law_12 cw_Mo_init ml_La_63 im_Mo_init ⟨Nat.le_of_ble_eq_true rfl, Nat.le_of_ble_eq_true rfl⟩ rfl (Nat.le_of_ble_eq_true rfl) rfl rfl ?_
  refine mj_astore_n d_La_law_15 (by decide) rfl rfl ?_
  refine mj_iconst (v := 1) d_La_law_16 (by decide) ?_
  refine mj_newl (N := 1) (kc := 513) (ks := 3073) ac_long d_La_law_17 (by decide) (by decide) (by decide) ?_
  refine mj_ra (n := 40) (ax_l rf_l0) ?_
  refine mj_astore_n d_La_law_19 (by decide) rfl rfl ?_
  refine mj_iconst (v := 1) d_La_law_20 (by decide) ?_
  refine mj_newd (N := 1) (kc := 512) (ks := 3072) ac_double d_La_law_21 (by decide) (by decide) (by decide) ?_
  refine mj_ra (n := 41) (by rw [List.length_append, ax_l rf_l0]; rfl) ?_
  refine mj_hp (h1 := rf_H0 ++ rf_T0) rfl ?_
  refine mj_astore d_La_law_23 (by decide) rfl rfl ?_
  refine mj_iconst (v := 0) d_La_law_25 (by decide) ?_
  refine mj_istore d_La_law_26 (by decide) rfl rfl ?_
  exact lp_law hN 512 0 _ li_0 (by omega) (by omega)
