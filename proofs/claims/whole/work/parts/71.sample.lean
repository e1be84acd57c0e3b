theorem tp_le {M B i : Nat} (hM : M < 2 ^ 29) (hB : B < 2 ^ 29) (hi : i < 2 ^ 29) : (nI M - nI B ≤ nI i) ↔ M ≤ B + i := by
  rw [Int32.le_iff_toInt_le, pk_sub_toInt (by omega) (by omega), nI_toInt (by omega)]
  omega
theorem tp_ge {x B : Nat} (hM : x < 2 ^ 29) (hB : B < 2 ^ 29) : (0 ≤ nI x - nI B) ↔ B ≤ x := by
  rw [Int32.le_iff_toInt_le, pk_sub_toInt (by omega) (by omega)]
  show (0 : Int) ≤ _ ↔ _
  omega
theorem tp_k (x B : Nat) : nI x - nI B + 1 = nI (x + 1) - nI B := by
  rw [Int32.sub_eq_add_neg, Int32.sub_eq_add_neg, Int32.add_assoc, Int32.add_comm (-nI B) 1, ← Int32.add_assoc, nI_1]
def tp_M (E : Nat) : Nat := if E = 0 then 1 else E
def tp_sz (E : Nat) (f one : Int32) : UInt64 := if E = 0 then FP.i2d f else FP.i2d (one + f)
def tp_up : Nat → UInt64 → UInt64
  | 0, q => q
  | j + 1, q => tp_up j (FP.dmul q 4611686018427387904)
def tp_dn (B : Nat) : Nat → Nat → UInt64 → UInt64
  | 0, _, q => q
  | j + 1, x, q => if x < B ∧ ¬ Op.cmpValue (FP.dcmp q FP.dconst0) .l ≤ 0 then tp_dn B j (x + 1) (FP.ddiv q 4611686018427387904) else q
def tp_fin (bl : Int32) (q : UInt64) : UInt64 := if bl = 0 then q else if Op.cmpValue (FP.dcmp q FP.dconst0) .l ≤ 0 then q else FP.dneg q
def tp_all (E : Nat) (f one : Int32) (B : Nat) (bl : Int32) : UInt64 := tp_fin bl (tp_dn B B (tp_M E) (tp_up (tp_M E - B) (tp_sz E f one)))
theorem tp_sz_n (E : Nat) (f one : Int32) : vf_n64 (tp_sz E f one) := by unfold tp_sz; split <;> exact fl_i _
theorem tp_up_n : ∀ (j : Nat) (q : UInt64), vf_n64 q → vf_n64 (tp_up j q)
  | 0, _, h => h
  | j + 1, q, h => tp_up_n j _ (fl_m2 h)
theorem tp_dn_n (B : Nat) : ∀ (j x : Nat) (q : UInt64), vf_n64 q → vf_n64 (tp_dn B j x q)
  | 0, _, _, h => h
  | j + 1, x, q, h => by
    unfold tp_dn
    split
    · exact tp_dn_n B j (x + 1) _ (fl_d2 h)
    · exact h
theorem tp_fin_n (bl : Int32) (q : UInt64) (h : vf_n64 q) : vf_n64 (tp_fin bl q) := by
  unfold tp_fin
  split
  · exact h
  · split
    · exact h
    · exact fl_neg h
theorem tp_all_n (E : Nat) (f one : Int32) (B : Nat) (bl : Int32) : vf_n64 (tp_all E f one B bl) := tp_fin_n _ _ (tp_dn_n _ _ _ _ (tp_up_n _ _ (tp_sz_n _ _ _)))
set_option maxRecDepth 100000 in
set_option maxHeartbeats 4000000 in
theorem lp_Sa_told_u {Q : mj_E → mj_H → Prop} {h : mj_H} {kc ks E B M : Nat} {f one bl : Int32} (hM : M < 2 ^ 29) (hB : B < 2 ^ 29) : ∀ (j i : Nat) (q : UInt64), vf_n64 q → M - B = i + j → mj_W M_Sa_toldParts Q (1, 21, none) kc ks 48 [some (.int (nI E)), some (.int f), some (.int one), some (.int (nI B)), some (.int bl), some (.double (tp_up j q)), none, some (.int (nI M - nI B)), none] [] h → mj_W M_Sa_toldParts Q (1, 21, none) kc ks 27 [some (.int (nI E)), some (.int f), some (.int one), some (.int (nI B)), some (.int bl), some (.double q), none, some (.int (nI M - nI B)), some (.int (nI i))] [] h := by
  intro j
  induction j with
  | zero =>
    intro i q hq hi kk
    refine mj_iload d_Sa_toldParts_27 rfl ?_
    refine mj_iload d_Sa_toldParts_29 rfl ?_
    refine mj_icmp_ge (tgt := 48) d_Sa_toldParts_31 (by decide) (fun c_31 => ?_) (fun c_31 => ?_)
    · refine mj_fg 8 (L' := [some (.int (nI E)), some (.int f), some (.int one), some (.int (nI B)), some (.int bl), some (.double q), none, some (.int (nI M - nI B)), none]) rfl ?_
      exact kk
    · exact absurd ((tp_le hM hB (by omega)).mpr (by omega)) c_31
  | succ j ih =>
    intro i q hq hi kk
    refine mj_iload d_Sa_toldParts_27 rfl ?_
    refine mj_iload d_Sa_toldParts_29 rfl ?_
    refine mj_icmp_ge (tgt := 48) d_Sa_toldParts_31 (by decide) (fun c_31 => ?_) (fun c_31 => ?_)
    · exact absurd ((tp_le hM hB (by omega)).mp c_31) (by omega)
    · refine mj_dload d_Sa_toldParts_34 rfl ?_
      refine mj_ldc2d d_Sa_toldParts_36 kd_Sa_52 ?_
      refine mj_dmul d_Sa_toldParts_39 (fl_m2 hq) ?_
      refine mj_topd (fun v1 e_v1 => ?_)
      refine mj_dstore (L' := [some (.int (nI E)), some (.int f), some (.int one), some (.int (nI B)), some (.int bl), some (.double v1), none, some (.int (nI M - nI B)), some (.int (nI i))]) d_Sa_toldParts_40 (by decide) rfl rfl ?_
      obtain ⟨v2, e_v2⟩ : ∃ q_ : Int32, q_ = (nI i) + 1 := ⟨_, rfl⟩
      refine mj_iinc (x := (nI i)) (v := v2) (L' := [some (.int (nI E)), some (.int f), some (.int one), some (.int (nI B)), some (.int bl), some (.double v1), none, some (.int (nI M - nI B)), some (.int v2)]) d_Sa_toldParts_42 rfl (by rw [e_v2]; rfl) (by decide) rfl rfl ?_
      refine mj_goto (tgt := 27) d_Sa_toldParts_45 (by decide) ?_
      rw [e_v2, nI_1, e_v1]
      exact ih (i + 1) _ (fl_m2 hq) (by omega) kk
set_option maxRecDepth 100000 in
set_option maxHeartbeats 4000000 in
theorem lp_Sa_told_d {Q : mj_E → mj_H → Prop} {h : mj_H} {kc ks E B M : Nat} {f one bl : Int32} (hB : B < 2 ^ 28) : ∀ (j x : Nat) (q : UInt64), vf_n64 q → B ≤ x + j → x < 2 ^ 29 → mj_W M_Sa_toldParts Q (1, 21, none) kc ks 78 [some (.int (nI E)), some (.int f), some (.int one), some (.int (nI B)), some (.int bl), some (.double (tp_dn B j x q)), none, some (.int (nI M - nI B)), none] [] h → mj_W M_Sa_toldParts Q (1, 21, none) kc ks 52 [some (.int (nI E)), some (.int f), some (.int one), some (.int (nI B)), some (.int bl), some (.double q), none, some (.int (nI M - nI B)), some (.int (nI x - nI B))] [] h := by
  intro j
  induction j with
  | zero =>
    intro x q hq hx hx2 kk
    have hB : B < 2 ^ 29 := by omega
    refine mj_iload d_Sa_toldParts_52 rfl ?_
    refine mj_if_ge (tgt := 78) d_Sa_toldParts_54 (by decide) (fun c_54 => ?_) (fun c_54 => ?_)
    · refine mj_fg 8 (L' := [some (.int (nI E)), some (.int f), some (.int one), some (.int (nI B)), some (.int bl), some (.double q), none, some (.int (nI M - nI B)), none]) rfl ?_
      exact kk
    · exact absurd ((tp_ge hx2 hB).mpr (by omega)) c_54
  | succ j ih =>
    intro x q hq hx hx2 kk
    have hB : B < 2 ^ 29 := by omega
    refine mj_iload d_Sa_toldParts_52 rfl ?_
    refine mj_if_ge (tgt := 78) d_Sa_toldParts_54 (by decide) (fun c_54 => ?_) (fun c_54 => ?_)
    · refine mj_fg 8 (L' := [some (.int (nI E)), some (.int f), some (.int one), some (.int (nI B)), some (.int bl), some (.double q), none, some (.int (nI M - nI B)), none]) rfl ?_
      rw [show tp_dn B (j + 1) x q = q by rw [tp_dn, if_neg (fun g => by have := (tp_ge hx2 hB).mp c_54; omega)]] at kk
      exact kk
    · refine mj_dload d_Sa_toldParts_57 rfl ?_
      refine mj_dconst0 d_Sa_toldParts_59 ?_
      refine mj_dcmp d_Sa_toldParts_60 ?_
      refine mj_if_le (tgt := 78) d_Sa_toldParts_61 (by decide) (fun c_61 => ?_) (fun c_61 => ?_)
      · refine mj_fg 8 (L' := [some (.int (nI E)), some (.int f), some (.int one), some (.int (nI B)), some (.int bl), some (.double q), none, some (.int (nI M - nI B)), none]) rfl ?_
        rw [show tp_dn B (j + 1) x q = q by rw [tp_dn, if_neg (fun g => g.2 c_61)]] at kk
        exact kk
      · refine mj_dload d_Sa_toldParts_64 rfl ?_
        refine mj_ldc2d d_Sa_toldParts_66 kd_Sa_52 ?_
        refine mj_ddiv d_Sa_toldParts_69 (fl_d2 hq) ?_
        refine mj_topd (fun v1 e_v1 => ?_)
        refine mj_dstore (L' := [some (.int (nI E)), some (.int f), some (.int one), some (.int (nI B)), some (.int bl), some (.double v1), none, some (.int (nI M - nI B)), some (.int (nI x - nI B))]) d_Sa_toldParts_70 (by decide) rfl rfl ?_
        obtain ⟨v2, e_v2⟩ : ∃ q_ : Int32, q_ = (nI x - nI B) + 1 := ⟨_, rfl⟩
        refine mj_iinc (x := (nI x - nI B)) (v := v2) (L' := [some (.int (nI E)), some (.int f), some (.int one), some (.int (nI B)), some (.int bl), some (.double v1), none, some (.int (nI M - nI B)), some (.int v2)]) d_Sa_toldParts_72 rfl (by rw [e_v2]; rfl) (by decide) rfl rfl ?_
        refine mj_goto (tgt := 52) d_Sa_toldParts_75 (by decide) ?_
        rw [e_v2, tp_k, e_v1]
        have hxB : x < B := Nat.not_le.mp (fun g => c_54 ((tp_ge hx2 hB).mpr g))
        rw [show tp_dn B (j + 1) x q = tp_dn B j (x + 1) (FP.ddiv q 4611686018427387904) by rw [tp_dn, if_pos ⟨hxB, c_61⟩]] at kk
        exact ih (x + 1) _ (fl_d2 hq) (by omega) (by omega) kk
set_option maxRecDepth 100000 in
set_option maxHeartbeats 4000000 in
theorem c_Sa_toldParts {h : mj_H} {E B : Nat} (f one bl : Int32) (hE : E < 2 ^ 28) (hB : B < 2 ^ 28) : mj_Met M_Sa_toldParts (1, 21, none) 0 0 [.int (nI E), .int f, .int one, .int (nI B), .int bl] h (mj_q (some (.double (tp_all E f one B bl))) h) := by
  have hB2 : B < 2 ^ 29 := by omega
  have hM2 : tp_M E < 2 ^ 28 := by unfold tp_M; split <;> omega
  refine mj_enter (r := 4) rfl rfl (by decide) rfl ?_
  show mj_W M_Sa_toldParts _ _ _ _ 0 [some (.int (nI E)), some (.int f), some (.int one), some (.int (nI B)), some (.int bl), none, none, none, none] [] h
  refine mj_iload_n d_Sa_toldParts_0 rfl ?_
  refine mj_if_ne (tgt := 9) d_Sa_toldParts_1 (by decide) (fun c_1 => ?_) (fun c_1 => ?_)
  · refine mj_iload_n d_Sa_toldParts_9 rfl ?_
    refine mj_iload_n d_Sa_toldParts_10 rfl ?_
    refine mj_iadd d_Sa_toldParts_11 ?_
    refine mj_i2d d_Sa_toldParts_12 ?_
    refine mj_topd (fun v1 e_v1 => ?_)
    refine mj_dstore (L' := [some (.int (nI E)), some (.int f), some (.int one), some (.int (nI B)), some (.int bl), some (.double v1), none, none, none]) d_Sa_toldParts_13 (by decide) rfl rfl ?_
    have gE : ¬ E = 0 := fun g => c_1 (by rw [g]; rfl)
    have ez : tp_sz E f one = v1 := by unfold tp_sz; rw [if_neg gE, e_v1]
    have eM : tp_M E = E := if_neg gE
    refine mj_iload_n d_Sa_toldParts_15 rfl ?_
    refine mj_iconst (v := 1) d_Sa_toldParts_16 (by decide) ?_
    refine mj_cS (S := []) (S1 := [.int (if nI E < 1 then 1 else nI E)]) (c_Ma_max (nI E) 1) d_Sa_toldParts_17 cw_Ma_max ml_Sa_49 st_Ma_max (by decide) rfl (Nat.le_of_ble_eq_true rfl) rfl rfl ?_
    rw [show (if nI E < 1 then (1 : Int32) else nI E) = nI (tp_M E) by rw [eM, if_neg (fun g => by have := (nI_ltI (a := E) (b := 1) (by omega) (by decide)).mp g; omega)]]
    refine mj_iload_n d_Sa_toldParts_20 rfl ?_
    refine mj_isub d_Sa_toldParts_21 ?_
    refine mj_topi (fun v2 e_v2 => ?_)
    refine mj_istore (L' := [some (.int (nI E)), some (.int f), some (.int one), some (.int (nI B)), some (.int bl), some (.double v1), none, some (.int v2), none]) d_Sa_toldParts_22 (by decide) rfl rfl ?_
    refine mj_iconst (v := 0) d_Sa_toldParts_24 (by decide) ?_
    refine mj_istore (L' := [some (.int (nI E)), some (.int f), some (.int one), some (.int (nI B)), some (.int bl), some (.double v1), none, some (.int v2), some (.int 0)]) d_Sa_toldParts_25 (by decide) rfl rfl ?_
    rw [e_v2]
    refine lp_Sa_told_u (M := tp_M E) (by omega) hB2 (tp_M E - B) 0 v1 (by rw [← ez]; exact tp_sz_n _ _ _) (by omega) ?_
    refine mj_iload d_Sa_toldParts_48 rfl ?_
    refine mj_istore (L' := [some (.int (nI E)), some (.int f), some (.int one), some (.int (nI B)), some (.int bl), some (.double (tp_up (tp_M E - B) v1)), none, some (.int (nI (tp_M E) - nI B)), some (.int (nI (tp_M E) - nI B))]) d_Sa_toldParts_50 (by decide) rfl rfl ?_
    refine lp_Sa_told_d (M := tp_M E) hB B (tp_M E) (tp_up (tp_M E - B) v1) (tp_up_n _ _ (by rw [← ez]; exact tp_sz_n _ _ _)) (by omega) (by omega) ?_
    unfold tp_all
    rw [ez]
    obtain ⟨q2, e_q2⟩ : ∃ q_, q_ = tp_dn B B (tp_M E) (tp_up (tp_M E - B) v1) := ⟨_, rfl⟩
    rw [← e_q2]
    refine mj_iload d_Sa_toldParts_78 rfl ?_
    refine mj_if_eq (tgt := 96) d_Sa_toldParts_80 (by decide) (fun c_80 => ?_) (fun c_80 => ?_)
    · refine mj_dload d_Sa_toldParts_96 rfl ?_
      exact mj_dret rfl d_Sa_toldParts_98 ⟨by unfold tp_fin; rw [if_pos c_80], rfl⟩
    · refine mj_dload d_Sa_toldParts_83 rfl ?_
      refine mj_dconst0 d_Sa_toldParts_85 ?_
      refine mj_dcmp d_Sa_toldParts_86 ?_
      refine mj_if_le (tgt := 96) d_Sa_toldParts_87 (by decide) (fun c_87 => ?_) (fun c_87 => ?_)
      · refine mj_dload d_Sa_toldParts_96 rfl ?_
        exact mj_dret rfl d_Sa_toldParts_98 ⟨by unfold tp_fin; rw [if_neg c_80, if_pos c_87], rfl⟩
      · refine mj_dload d_Sa_toldParts_90 rfl ?_
        refine mj_dneg d_Sa_toldParts_92 ?_
        refine mj_goto (tgt := 98) d_Sa_toldParts_93 (by decide) ?_
        exact mj_dret rfl d_Sa_toldParts_98 ⟨by unfold tp_fin; rw [if_neg c_80, if_neg c_87], rfl⟩
  · refine mj_iload_n d_Sa_toldParts_4 rfl ?_
    refine mj_i2d d_Sa_toldParts_5 ?_
    refine mj_goto (tgt := 13) d_Sa_toldParts_6 (by decide) ?_
    refine mj_topd (fun v3 e_v3 => ?_)
    refine mj_dstore (L' := [some (.int (nI E)), some (.int f), some (.int one), some (.int (nI B)), some (.int bl), some (.double v3), none, none, none]) d_Sa_toldParts_13 (by decide) rfl rfl ?_
    have gE : E = 0 := by rw [show (0 : Int32) = nI 0 from rfl, nI_eq (by omega) (by decide)] at c_1; exact c_1
    have ez : tp_sz E f one = v3 := by unfold tp_sz; rw [if_pos gE, e_v3]
    have eM : tp_M E = 1 := if_pos gE
    refine mj_iload_n d_Sa_toldParts_15 rfl ?_
    refine mj_iconst (v := 1) d_Sa_toldParts_16 (by decide) ?_
    refine mj_cS (S := []) (S1 := [.int (if nI E < 1 then 1 else nI E)]) (c_Ma_max (nI E) 1) d_Sa_toldParts_17 cw_Ma_max ml_Sa_49 st_Ma_max (by decide) rfl (Nat.le_of_ble_eq_true rfl) rfl rfl ?_
    rw [show (if nI E < 1 then (1 : Int32) else nI E) = nI (tp_M E) by rw [eM, gE]; rfl]
    refine mj_iload_n d_Sa_toldParts_20 rfl ?_
    refine mj_isub d_Sa_toldParts_21 ?_
    refine mj_topi (fun v4 e_v4 => ?_)
    refine mj_istore (L' := [some (.int (nI E)), some (.int f), some (.int one), some (.int (nI B)), some (.int bl), some (.double v3), none, some (.int v4), none]) d_Sa_toldParts_22 (by decide) rfl rfl ?_
    refine mj_iconst (v := 0) d_Sa_toldParts_24 (by decide) ?_
    refine mj_istore (L' := [some (.int (nI E)), some (.int f), some (.int one), some (.int (nI B)), some (.int bl), some (.double v3), none, some (.int v4), some (.int 0)]) d_Sa_toldParts_25 (by decide) rfl rfl ?_
    rw [e_v4]
    refine lp_Sa_told_u (M := tp_M E) (by omega) hB2 (tp_M E - B) 0 v3 (by rw [← ez]; exact tp_sz_n _ _ _) (by omega) ?_
    refine mj_iload d_Sa_toldParts_48 rfl ?_
    refine mj_istore (L' := [some (.int (nI E)), some (.int f), some (.int one), some (.int (nI B)), some (.int bl), some (.double (tp_up (tp_M E - B) v3)), none, some (.int (nI (tp_M E) - nI B)), some (.int (nI (tp_M E) - nI B))]) d_Sa_toldParts_50 (by decide) rfl rfl ?_
    refine lp_Sa_told_d (M := tp_M E) hB B (tp_M E) (tp_up (tp_M E - B) v3) (tp_up_n _ _ (by rw [← ez]; exact tp_sz_n _ _ _)) (by omega) (by omega) ?_
    unfold tp_all
    rw [ez]
    obtain ⟨q2, e_q2⟩ : ∃ q_, q_ = tp_dn B B (tp_M E) (tp_up (tp_M E - B) v3) := ⟨_, rfl⟩
    rw [← e_q2]
    refine mj_iload d_Sa_toldParts_78 rfl ?_
    refine mj_if_eq (tgt := 96) d_Sa_toldParts_80 (by decide) (fun c_80 => ?_) (fun c_80 => ?_)
    · refine mj_dload d_Sa_toldParts_96 rfl ?_
      exact mj_dret rfl d_Sa_toldParts_98 ⟨by unfold tp_fin; rw [if_pos c_80], rfl⟩
    · refine mj_dload d_Sa_toldParts_83 rfl ?_
      refine mj_dconst0 d_Sa_toldParts_85 ?_
      refine mj_dcmp d_Sa_toldParts_86 ?_
      refine mj_if_le (tgt := 96) d_Sa_toldParts_87 (by decide) (fun c_87 => ?_) (fun c_87 => ?_)
      · refine mj_dload d_Sa_toldParts_96 rfl ?_
        exact mj_dret rfl d_Sa_toldParts_98 ⟨by unfold tp_fin; rw [if_neg c_80, if_pos c_87], rfl⟩
      · refine mj_dload d_Sa_toldParts_90 rfl ?_
        refine mj_dneg d_Sa_toldParts_92 ?_
        refine mj_goto (tgt := 98) d_Sa_toldParts_93 (by decide) ?_
        exact mj_dret rfl d_Sa_toldParts_98 ⟨by unfold tp_fin; rw [if_neg c_80, if_neg c_87], rfl⟩
def sa_eh (b : Int32) : Nat := (mj_ush b 10).toBitVec.toNat % 2 ^ 5
def sa_ef (b : Int32) : Nat := (mj_ush b 23).toBitVec.toNat % 2 ^ 8
def sa_told (t b : Int32) : UInt64 := if t = 0 then tp_all (sa_eh b) (b &&& 1023) 1024 25 (if b < 32768 then 0 else 1) else if t = 1 then tp_all (sa_ef b) (b &&& 8388607) 8388608 150 (if 0 ≤ b then 0 else 1) else FP.i2d b
theorem sa_told_n (t b : Int32) : vf_n64 (sa_told t b) := by
  unfold sa_told
  split
  · exact tp_all_n _ _ _ _ _
  · split
    · exact tp_all_n _ _ _ _ _
    · exact fl_i _
set_option maxRecDepth 100000 in
set_option maxHeartbeats 4000000 in
theorem c_Sa_told {h : mj_H} (t b : Int32) : mj_Met M_Sa_told (2, 49, none) 0 0 [.int t, .int b] h (mj_q (some (.double (sa_told t b))) h) := by
  refine mj_enter (r := 0) rfl rfl (by decide) rfl ?_
  show mj_W M_Sa_told _ _ _ _ 0 [some (.int t), some (.int b)] [] h
  refine mj_iload_n d_Sa_told_0 rfl ?_
  by_cases s_1_0 : t = 0
  · refine mj_lookup (off := 27) (tgt := 28) d_Sa_told_1 (by decide) (by rw [s_1_0]; decide) (by decide) ?_
    refine mj_iload_n d_Sa_told_28 rfl ?_
    refine mj_bipush (v := 10) d_Sa_told_29 (by decide) ?_
    refine mj_iushr d_Sa_told_31 rfl ?_
    refine mj_bipush (v := 31) d_Sa_told_32 (by decide) ?_
    refine mj_iand d_Sa_told_34 ?_
    refine mj_topi (fun vE e_vE => ?_)
    have eE : vE = nI (sa_eh b) := e_vE.trans (pk_and (mj_ush b 10) 5 (m := 31) (by decide))
    rw [eE]
    refine mj_iload_n d_Sa_told_35 rfl ?_
    refine mj_sipush (v := 1023) d_Sa_told_36 (by decide) ?_
    refine mj_iand d_Sa_told_39 ?_
    refine mj_sipush (v := 1024) d_Sa_told_40 (by decide) ?_
    refine mj_bipush (v := 25) d_Sa_told_43 (by decide) ?_
    refine mj_iload_n d_Sa_told_45 rfl ?_
    refine mj_ldc d_Sa_told_46 k_Sa_23 ?_
    refine mj_icmp_lt (tgt := 55) d_Sa_told_48 (by decide) (fun c_48 => ?_) (fun c_48 => ?_)
    · refine mj_iconst (v := 0) d_Sa_told_55 (by decide) ?_
      have hE : sa_eh b < 2 ^ 28 := Nat.lt_of_lt_of_le (Nat.mod_lt _ (by decide)) (by decide)
      refine mj_cS (S := []) (S1 := [.double (tp_all (sa_eh b) (b &&& 1023) 1024 25 0)]) (c_Sa_toldParts (E := sa_eh b) (B := 25) _ 1024 0 hE (by decide)) d_Sa_told_56 cw_Sa_toldParts ml_Sa_24 st_Sa_toldParts (by decide) rfl (Nat.le_of_ble_eq_true rfl) rfl rfl ?_
      exact mj_dret rfl d_Sa_told_59 ⟨by unfold sa_told; rw [if_pos s_1_0, if_pos c_48], rfl⟩
    · refine mj_iconst (v := 1) d_Sa_told_51 (by decide) ?_
      refine mj_goto (tgt := 56) d_Sa_told_52 (by decide) ?_
      have hE : sa_eh b < 2 ^ 28 := Nat.lt_of_lt_of_le (Nat.mod_lt _ (by decide)) (by decide)
      refine mj_cS (S := []) (S1 := [.double (tp_all (sa_eh b) (b &&& 1023) 1024 25 1)]) (c_Sa_toldParts (E := sa_eh b) (B := 25) _ 1024 1 hE (by decide)) d_Sa_told_56 cw_Sa_toldParts ml_Sa_24 st_Sa_toldParts (by decide) rfl (Nat.le_of_ble_eq_true rfl) rfl rfl ?_
      exact mj_dret rfl d_Sa_told_59 ⟨by unfold sa_told; rw [if_pos s_1_0, if_neg c_48], rfl⟩
  by_cases s_1_1 : t = 1
  · refine mj_lookup (off := 59) (tgt := 60) d_Sa_told_1 (by decide) (by rw [s_1_1]; decide) (by decide) ?_
    refine mj_iload_n d_Sa_told_60 rfl ?_
    refine mj_bipush (v := 23) d_Sa_told_61 (by decide) ?_
    refine mj_iushr d_Sa_told_63 rfl ?_
    refine mj_sipush (v := 255) d_Sa_told_64 (by decide) ?_
    refine mj_iand d_Sa_told_67 ?_
    refine mj_topi (fun vE e_vE => ?_)
    have eE : vE = nI (sa_ef b) := e_vE.trans (pk_and (mj_ush b 23) 8 (m := 255) (by decide))
    rw [eE]
    refine mj_iload_n d_Sa_told_68 rfl ?_
    refine mj_ldc d_Sa_told_69 k_Sa_28 ?_
    refine mj_iand d_Sa_told_71 ?_
    refine mj_ldc d_Sa_told_72 k_Sa_29 ?_
    refine mj_sipush (v := 150) d_Sa_told_74 (by decide) ?_
    refine mj_iload_n d_Sa_told_77 rfl ?_
    refine mj_if_ge (tgt := 85) d_Sa_told_78 (by decide) (fun c_78 => ?_) (fun c_78 => ?_)
    · refine mj_iconst (v := 0) d_Sa_told_85 (by decide) ?_
      have hE : sa_ef b < 2 ^ 28 := Nat.lt_of_lt_of_le (Nat.mod_lt _ (by decide)) (by decide)
      refine mj_cS (S := []) (S1 := [.double (tp_all (sa_ef b) (b &&& 8388607) 8388608 150 0)]) (c_Sa_toldParts (E := sa_ef b) (B := 150) _ 8388608 0 hE (by decide)) d_Sa_told_86 cw_Sa_toldParts ml_Sa_24 st_Sa_toldParts (by decide) rfl (Nat.le_of_ble_eq_true rfl) rfl rfl ?_
      exact mj_dret rfl d_Sa_told_89 ⟨by unfold sa_told; rw [if_neg s_1_0, if_pos s_1_1, if_pos c_78], rfl⟩
    · refine mj_iconst (v := 1) d_Sa_told_81 (by decide) ?_
      refine mj_goto (tgt := 86) d_Sa_told_82 (by decide) ?_
      have hE : sa_ef b < 2 ^ 28 := Nat.lt_of_lt_of_le (Nat.mod_lt _ (by decide)) (by decide)
      refine mj_cS (S := []) (S1 := [.double (tp_all (sa_ef b) (b &&& 8388607) 8388608 150 1)]) (c_Sa_toldParts (E := sa_ef b) (B := 150) _ 8388608 1 hE (by decide)) d_Sa_told_86 cw_Sa_toldParts ml_Sa_24 st_Sa_toldParts (by decide) rfl (Nat.le_of_ble_eq_true rfl) rfl rfl ?_
      exact mj_dret rfl d_Sa_told_89 ⟨by unfold sa_told; rw [if_neg s_1_0, if_pos s_1_1, if_neg c_78], rfl⟩
  refine mj_lookup (off := 89) (tgt := 90) d_Sa_told_1 (by decide) (by show Op.lookupswitch.offset [(0, 27), (1, 59)] 89 (t : Int32).toInt = 89; rw [lv_osw s_1_0 (show (0 : Int32).toInt = 0 by decide), lv_osw s_1_1 (show (1 : Int32).toInt = 1 by decide)]; rfl) (by decide) ?_
  refine mj_iload_n d_Sa_told_90 rfl ?_
  refine mj_i2d d_Sa_told_91 ?_
  exact mj_dret rfl d_Sa_told_92 ⟨by unfold sa_told; rw [if_neg s_1_0, if_neg s_1_1], rfl⟩
