/-- a local variable is forgotten -/
theorem mj_fg {M : mj_M} {Q : mj_E → mj_H → Prop} {d : mj_D} {kc ks pc : Nat} {L L' : List (Option Value)} {S : List Value} {h : mj_H} (i : Nat) (hL : L.set i none = L') (k : mj_W M Q d kc ks pc L' S h) : mj_W M Q d kc ks pc L S h := by
  subst hL
  intro p l e R s m args below meth c G o X H locs cells slots hS hk1 hk2 ls hl
  refine k p l e R s m args below meth c G o X H locs cells slots hS hk1 hk2 ls ⟨hl.1, hl.2.1, fun j v hj => ?_⟩
  by_cases q : j = i
  · subst q
    have hlt : j < (L.set j none).length := (List.getElem?_eq_some_iff.mp hj).1
    rw [List.length_set] at hlt
    rw [List.getElem?_set_self hlt] at hj
    cases hj
  · rw [List.getElem?_set_ne (Ne.symm q)] at hj
    exact hl.2.2 j v hj
/-- there is such a sample -/
abbrev pi_hs (p : pi_P) (c x y : Int32) : Prop := 0 ≤ c.toInt ∧ c.toInt < p.2.2.1 ∧ 0 ≤ x.toInt ∧ x.toInt < p.1 ∧ 0 ≤ y.toInt ∧ y.toInt < p.2.1 ∧ (p.2.2.2.2.2.1 c.toInt.toNat = 1 ∨ (x.toInt % 2 = 0 ∧ y.toInt % 2 = 0))
abbrev pi_hn (p : pi_P) (c x y : Nat) : Prop := c < p.2.2.1 ∧ x < p.1 ∧ y < p.2.1 ∧ (p.2.2.2.2.2.1 c = 1 ∨ (x % 2 = 0 ∧ y % 2 = 0))
theorem pi_hsn {p : pi_P} {c x y : Nat} (hc : c < 2 ^ 31) (hx : x < 2 ^ 31) (hy : y < 2 ^ 31) : pi_hs p (nI c) (nI x) (nI y) ↔ pi_hn p c x y := by
  unfold pi_hs pi_hn
  rw [nI_toInt hc, nI_toInt hx, nI_toInt hy, Int.toNat_natCast]
  constructor
  · rintro ⟨-, h1, -, h2, -, h3, h4⟩
    exact ⟨by omega, by omega, by omega, h4.imp id (fun q => by omega)⟩
  · rintro ⟨h1, h2, h3, h4⟩
    exact ⟨by omega, by omega, by omega, by omega, by omega, by omega, h4.imp id (fun q => by omega)⟩
set_option maxRecDepth 100000 in
set_option maxHeartbeats 4000000 in
theorem c_Pi_hasSample {h : mj_H} {a l t s m : Nat} {p : pi_P} (P : Pi h a l t s m p) (c x y : Int32) : mj_Met M_Pi_hasSample (1, 22, none) 0 0 [.ref a, .int c, .int x, .int y] h (mj_q (some (.int (if pi_hs p c x y then 1 else 0))) h) := by
  obtain ⟨h1, h2, h3, h4, h5, ⟨n1, n2, n3, n4, n5, n6⟩, w1, w2, w3⟩ := id P
  refine mj_enter (r := 0) rfl rfl (by decide) rfl ?_
  show mj_W M_Pi_hasSample _ _ _ _ 0 [some (.ref a), some (.int c), some (.int x), some (.int y)] [] h
  refine mj_iload_n d_Pi_hasSample_0 rfl ?_
  refine mj_if_lt (tgt := 58) d_Pi_hasSample_1 (by decide) (fun c_1 => ?_) (fun c_1 => ?_)
  · refine mj_iconst (v := 0) d_Pi_hasSample_58 (by decide) ?_
    exact mj_zret rfl (by decide) d_Pi_hasSample_59 ⟨by rw [if_neg (fun q => by obtain ⟨q1, q2, q3, q4, q5, q6, q7⟩ := q; rw [mj_i0] at c_1; omega)], rfl⟩
  · refine mj_iload_n d_Pi_hasSample_4 rfl ?_
    refine mj_aload_n d_Pi_hasSample_5 rfl ?_
    refine mj_get ok_Pi (k := 2) (by decide) fl_Pi_31 d_Pi_hasSample_6 h1 rfl ?_
    refine mj_icmp_ge (tgt := 58) d_Pi_hasSample_9 (by decide) (fun c_9 => ?_) (fun c_9 => ?_)
    · refine mj_iconst (v := 0) d_Pi_hasSample_58 (by decide) ?_
      exact mj_zret rfl (by decide) d_Pi_hasSample_59 ⟨by rw [if_neg (fun q => by obtain ⟨q1, q2, q3, q4, q5, q6, q7⟩ := q; rw [mj_iN (by omega)] at c_9; omega)], rfl⟩
    · refine mj_iload_n d_Pi_hasSample_12 rfl ?_
      refine mj_if_lt (tgt := 58) d_Pi_hasSample_13 (by decide) (fun c_13 => ?_) (fun c_13 => ?_)
      · refine mj_iconst (v := 0) d_Pi_hasSample_58 (by decide) ?_
        exact mj_zret rfl (by decide) d_Pi_hasSample_59 ⟨by rw [if_neg (fun q => by obtain ⟨q1, q2, q3, q4, q5, q6, q7⟩ := q; rw [mj_i0] at c_13; omega)], rfl⟩
      · refine mj_iload_n d_Pi_hasSample_16 rfl ?_
        refine mj_aload_n d_Pi_hasSample_17 rfl ?_
        refine mj_get ok_Pi (k := 0) (by decide) fl_Pi_24 d_Pi_hasSample_18 h1 rfl ?_
        refine mj_icmp_ge (tgt := 58) d_Pi_hasSample_21 (by decide) (fun c_21 => ?_) (fun c_21 => ?_)
        · refine mj_iconst (v := 0) d_Pi_hasSample_58 (by decide) ?_
          exact mj_zret rfl (by decide) d_Pi_hasSample_59 ⟨by rw [if_neg (fun q => by obtain ⟨q1, q2, q3, q4, q5, q6, q7⟩ := q; rw [mj_iN (by omega)] at c_21; omega)], rfl⟩
        · obtain ⟨cj, hcj, rfl⟩ := mj_of c_1 c_9 (by omega)
          obtain ⟨xj, hxj, rfl⟩ := mj_of c_13 c_21 (by omega)
          refine mj_aload_n d_Pi_hasSample_24 rfl ?_
          refine mj_iload_n d_Pi_hasSample_25 rfl ?_
          refine mj_iload_n d_Pi_hasSample_26 rfl ?_
          refine mj_cV (S := []) (S1 := [.int (if p.2.2.2.2.2.1 cj = 1 ∨ xj % 2 = 0 then 1 else 0)]) (c_Pi_isOnStep P (c := cj) (y := xj) (by omega) (by omega)) d_Pi_hasSample_27 cw_Pi_isOnStep ml_Pi_40 im_Pi_isOnStep se_Pi_isOnStep rfl h1 (by decide) rfl (Nat.le_of_ble_eq_true rfl) rfl rfl ?_
          refine mj_if_eq (tgt := 58) d_Pi_hasSample_30 (by decide) (fun c_30 => ?_) (fun c_30 => ?_)
          · refine mj_iconst (v := 0) d_Pi_hasSample_58 (by decide) ?_
            have g1 : ¬ (p.2.2.2.2.2.1 cj = 1 ∨ xj % 2 = 0) := fun q => by rw [if_pos q] at c_30; revert c_30; decide
            exact mj_zret rfl (by decide) d_Pi_hasSample_59 ⟨by rw [if_neg (fun q => by obtain ⟨q1, q2, q3, q4, q5, q6, q7⟩ := q; rw [nI_toInt (by omega), Int.toNat_natCast, nI_toInt (by omega)] at q7; exact g1 (q7.imp id (fun r => by omega)))], rfl⟩
          · refine mj_iload_n d_Pi_hasSample_33 rfl ?_
            refine mj_if_lt (tgt := 58) d_Pi_hasSample_34 (by decide) (fun c_34 => ?_) (fun c_34 => ?_)
            · refine mj_iconst (v := 0) d_Pi_hasSample_58 (by decide) ?_
              exact mj_zret rfl (by decide) d_Pi_hasSample_59 ⟨by rw [if_neg (fun q => by obtain ⟨q1, q2, q3, q4, q5, q6, q7⟩ := q; rw [mj_i0] at c_34; omega)], rfl⟩
            · refine mj_iload_n d_Pi_hasSample_37 rfl ?_
              refine mj_aload_n d_Pi_hasSample_38 rfl ?_
              refine mj_get ok_Pi (k := 1) (by decide) fl_Pi_28 d_Pi_hasSample_39 h1 rfl ?_
              refine mj_icmp_ge (tgt := 58) d_Pi_hasSample_42 (by decide) (fun c_42 => ?_) (fun c_42 => ?_)
              · refine mj_iconst (v := 0) d_Pi_hasSample_58 (by decide) ?_
                exact mj_zret rfl (by decide) d_Pi_hasSample_59 ⟨by rw [if_neg (fun q => by obtain ⟨q1, q2, q3, q4, q5, q6, q7⟩ := q; rw [mj_iN (by omega)] at c_42; omega)], rfl⟩
              · obtain ⟨yj, hyj, rfl⟩ := mj_of c_34 c_42 (by omega)
                refine mj_aload_n d_Pi_hasSample_45 rfl ?_
                refine mj_iload_n d_Pi_hasSample_46 rfl ?_
                refine mj_iload_n d_Pi_hasSample_47 rfl ?_
                refine mj_cV (S := []) (S1 := [.int (if p.2.2.2.2.2.1 cj = 1 ∨ yj % 2 = 0 then 1 else 0)]) (c_Pi_isOnStep P (c := cj) (y := yj) (by omega) (by omega)) d_Pi_hasSample_48 cw_Pi_isOnStep ml_Pi_40 im_Pi_isOnStep se_Pi_isOnStep rfl h1 (by decide) rfl (Nat.le_of_ble_eq_true rfl) rfl rfl ?_
                refine mj_if_eq (tgt := 58) d_Pi_hasSample_51 (by decide) (fun c_51 => ?_) (fun c_51 => ?_)
                · refine mj_iconst (v := 0) d_Pi_hasSample_58 (by decide) ?_
                  have g1 : ¬ (p.2.2.2.2.2.1 cj = 1 ∨ yj % 2 = 0) := fun q => by rw [if_pos q] at c_51; revert c_51; decide
                  exact mj_zret rfl (by decide) d_Pi_hasSample_59 ⟨by rw [if_neg (fun q => by obtain ⟨q1, q2, q3, q4, q5, q6, q7⟩ := q; rw [nI_toInt (by omega), Int.toNat_natCast, nI_toInt (by omega), nI_toInt (by omega)] at q7; exact g1 (q7.imp id (fun r => by omega)))], rfl⟩
                · refine mj_iconst (v := 1) d_Pi_hasSample_54 (by decide) ?_
                  refine mj_goto (tgt := 59) d_Pi_hasSample_55 (by decide) ?_
                  have g1 : p.2.2.2.2.2.1 cj = 1 ∨ xj % 2 = 0 := Decidable.byContradiction (fun q => c_30 (by rw [if_neg q]))
                  have g2 : p.2.2.2.2.2.1 cj = 1 ∨ yj % 2 = 0 := Decidable.byContradiction (fun q => c_51 (by rw [if_neg q]))
                  exact mj_zret rfl (by decide) d_Pi_hasSample_59 ⟨by rw [if_pos ((pi_hsn (by omega) (by omega) (by omega)).mpr ⟨hcj, hxj, hyj, by rcases g1 with g1 | g1; exact Or.inl g1; rcases g2 with g2 | g2; exact Or.inl g2; exact Or.inr ⟨g1, g2⟩⟩)], rfl⟩
/-- lines of a chunk; the line behind the chunk that begins at y; how many chunks -/
def rf_ln (k : Nat) : Nat := if k < 2 then 1 else 4
theorem rf_lines_ln {k : Nat} (hk : k < 4) : rf_lines (nI k) = nI (rf_ln k) := by
  match k, hk with
  | 0, _ => rfl
  | 1, _ => rfl
  | 2, _ => rfl
  | 3, _ => rfl
def pi_end (p : pi_P) (y k : Nat) : Nat := if p.2.1 < y + rf_ln k then p.2.1 else y + rf_ln k
def pi_chs (p : pi_P) (k : Nat) : Nat := if k < 2 then p.2.1 else (p.2.1 + 3) / 4
theorem rf_ln_le (k : Nat) : rf_ln k ≤ 4 := by unfold rf_ln; split <;> omega
set_option maxRecDepth 100000 in
set_option maxHeartbeats 4000000 in
theorem c_Pi_endOfChunk {h : mj_H} {a l t s m : Nat} {p : pi_P} (P : Pi h a l t s m p) {y k : Nat} (hy : y < 2 ^ 30) (hk : k < 4) : mj_Met M_Pi_endOfChunk (1, 21, none) 0 0 [.ref a, .int (nI y), .int (nI k)] h (mj_q (some (.int (nI (pi_end p y k)))) h) := by
  obtain ⟨h1, h2, h3, h4, h5, ⟨n1, n2, n3, n4, n5, n6⟩, w1, w2, w3⟩ := id P
  refine mj_enter (r := 0) rfl rfl (by decide) rfl ?_
  show mj_W M_Pi_endOfChunk _ _ _ _ 0 [some (.ref a), some (.int (nI y)), some (.int (nI k))] [] h
  refine mj_iload_n d_Pi_endOfChunk_0 rfl ?_
  refine mj_iload_n d_Pi_endOfChunk_1 rfl ?_
  refine mj_cSN (S := [.int (nI y)]) (S1 := [.int (rf_lines (nI k)), .int (nI y)]) (c_RF_linesOfChunk (nI k)) d_Pi_endOfChunk_2 cw_RF_linesOfChunk mn_Pi_69 st_RF_linesOfChunk (by decide) rfl (Nat.le_of_ble_eq_true rfl) rfl rfl ?_
  refine mj_iadd d_Pi_endOfChunk_5 ?_
  refine mj_aload_n d_Pi_endOfChunk_6 rfl ?_
  refine mj_get ok_Pi (k := 1) (by decide) fl_Pi_28 d_Pi_endOfChunk_7 h1 rfl ?_
  refine mj_cS (S := []) (S1 := [.int (if nI p.2.1 < nI y + rf_lines (nI k) then nI p.2.1 else nI y + rf_lines (nI k))]) (c_Ma_min _ _) d_Pi_endOfChunk_10 cw_Ma_min ml_Pi_72 st_Ma_min (by decide) rfl (Nat.le_of_ble_eq_true rfl) rfl rfl ?_
  have e8 := rf_ln_le k
  have e9 : (if nI p.2.1 < nI y + rf_lines (nI k) then nI p.2.1 else nI y + rf_lines (nI k)) = nI (pi_end p y k) := by
    unfold pi_end
    rw [rf_lines_ln hk, nI_add]
    by_cases q : p.2.1 < y + rf_ln k
    · rw [if_pos q, if_pos ((nI_ltI (by omega) (by omega)).mpr q)]
    · rw [if_neg q, if_neg (fun z => q ((nI_ltI (by omega) (by omega)).mp z))]
  exact mj_iret rfl d_Pi_endOfChunk_13 ⟨by rw [e9], rfl⟩
set_option maxRecDepth 100000 in
set_option maxHeartbeats 4000000 in
theorem c_Pi_chunks {h : mj_H} {a l t s m : Nat} {p : pi_P} (P : Pi h a l t s m p) {k : Nat} (hk : k < 4) : mj_Met M_Pi_chunks (1, 20, none) 0 0 [.ref a, .int (nI k)] h (mj_q (some (.int (nI (pi_chs p k)))) h) := by
  obtain ⟨h1, h2, h3, h4, h5, ⟨n1, n2, n3, n4, n5, n6⟩, w1, w2, w3⟩ := id P
  refine mj_enter (r := 0) rfl rfl (by decide) rfl ?_
  show mj_W M_Pi_chunks _ _ _ _ 0 [some (.ref a), some (.int (nI k))] [] h
  refine mj_iload_n d_Pi_chunks_0 rfl ?_
  refine mj_cSN (S := []) (S1 := [.int (rf_lines (nI k))]) (c_RF_linesOfChunk (nI k)) d_Pi_chunks_1 cw_RF_linesOfChunk mn_Pi_69 st_RF_linesOfChunk (by decide) rfl (Nat.le_of_ble_eq_true rfl) rfl rfl ?_
  refine mj_iconst (v := 1) d_Pi_chunks_4 (by decide) ?_
  refine mj_icmp_ne (tgt := 15) d_Pi_chunks_5 (by decide) (fun c_5 => ?_) (fun c_5 => ?_)
  · refine mj_aload_n d_Pi_chunks_15 rfl ?_
    refine mj_get ok_Pi (k := 1) (by decide) fl_Pi_28 d_Pi_chunks_16 h1 rfl ?_
    refine mj_iconst (v := 4) d_Pi_chunks_19 (by decide) ?_
    refine mj_iadd d_Pi_chunks_20 ?_
    refine mj_iconst (v := 1) d_Pi_chunks_21 (by decide) ?_
    refine mj_isub d_Pi_chunks_22 ?_
    refine mj_iconst (v := 4) d_Pi_chunks_23 (by decide) ?_
    refine mj_idiv d_Pi_chunks_24 (by decide) ?_
    rw [rf_lines_ln hk] at c_5
    unfold rf_ln at c_5
    by_cases q : k < 2
    · rw [if_pos q] at c_5
      exact absurd rfl c_5
    · exact mj_iret rfl d_Pi_chunks_25 ⟨by unfold pi_chs; rw [if_neg q, show (4 : Int32) = nI 4 from rfl, nI_add, show (1 : Int32) = nI 1 from rfl, pk_sub (by omega), pk_div (by omega) (by decide) (by decide), show p.2.1 + 4 - 1 = p.2.1 + 3 by omega], rfl⟩
  · refine mj_aload_n d_Pi_chunks_8 rfl ?_
    refine mj_get ok_Pi (k := 1) (by decide) fl_Pi_28 d_Pi_chunks_9 h1 rfl ?_
    refine mj_goto (tgt := 25) d_Pi_chunks_12 (by decide) ?_
    rw [rf_lines_ln hk] at c_5
    unfold rf_ln at c_5
    by_cases q : k < 2
    · exact mj_iret rfl d_Pi_chunks_25 ⟨by unfold pi_chs; rw [if_pos q], rfl⟩
    · rw [if_neg q] at c_5
      exact absurd c_5 (by decide)
def pi_fact (p : pi_P) (w : Int32) (c : Nat) : Int32 := if w = 1 then p.2.2.2.1 c else if w = 2 then p.2.2.2.2.1 c else if w = 3 then p.2.2.2.2.2.1 c else nI (pi_on p c p.1) * nI (pi_on p c p.2.1)
set_option maxRecDepth 100000 in
set_option maxHeartbeats 4000000 in
theorem c_Pi_fact {h : mj_H} {a l t s m : Nat} {p : pi_P} (P : Pi h a l t s m p) (w : Int32) {c : Nat} (hc : c < 3) : mj_Met M_Pi_fact (2, 43, none) 0 0 [.ref a, .int w, .int (nI c)] h (mj_q (some (.int (pi_fact p w c))) h) := by
  obtain ⟨h1, h2, h3, h4, h5, ⟨n1, n2, n3, n4, n5, n6⟩, w1, w2, w3⟩ := id P
  refine mj_enter (r := 0) rfl rfl (by decide) rfl ?_
  show mj_W M_Pi_fact _ _ _ _ 0 [some (.ref a), some (.int w), some (.int (nI c))] [] h
  refine mj_iload_n d_Pi_fact_0 rfl ?_
  by_cases s_1_1 : w = 1
  · refine mj_tableIn (off := 27) (tgt := 28) d_Pi_fact_1 (by rw [s_1_1]; decide) (by rw [s_1_1]; decide) (by rw [s_1_1]; decide) (by decide) ?_
    refine mj_aload_n d_Pi_fact_28 rfl ?_
    refine mj_get ok_Pi (k := 3) (by decide) fl_Pi_9 d_Pi_fact_29 h1 rfl ?_
    refine mj_iload_n d_Pi_fact_32 rfl ?_
    refine mj_iald d_Pi_fact_33 h2 (vp_in_nI hc (by decide)) ?_
    exact mj_iret rfl d_Pi_fact_34 ⟨by unfold pi_fact; rw [if_pos s_1_1, nI_clamp (by omega)], rfl⟩
  by_cases s_1_2 : w = 2
  · refine mj_tableIn (off := 34) (tgt := 35) d_Pi_fact_1 (by rw [s_1_2]; decide) (by rw [s_1_2]; decide) (by rw [s_1_2]; decide) (by decide) ?_
    refine mj_aload_n d_Pi_fact_35 rfl ?_
    refine mj_get ok_Pi (k := 4) (by decide) fl_Pi_15 d_Pi_fact_36 h1 rfl ?_
    refine mj_iload_n d_Pi_fact_39 rfl ?_
    refine mj_iald d_Pi_fact_40 h3 (vp_in_nI hc (by decide)) ?_
    exact mj_iret rfl d_Pi_fact_41 ⟨by unfold pi_fact; rw [if_neg s_1_1, if_pos s_1_2, nI_clamp (by omega)], rfl⟩
  by_cases s_1_3 : w = 3
  · refine mj_tableIn (off := 41) (tgt := 42) d_Pi_fact_1 (by rw [s_1_3]; decide) (by rw [s_1_3]; decide) (by rw [s_1_3]; decide) (by decide) ?_
    refine mj_aload_n d_Pi_fact_42 rfl ?_
    refine mj_get ok_Pi (k := 5) (by decide) fl_Pi_18 d_Pi_fact_43 h1 rfl ?_
    refine mj_iload_n d_Pi_fact_46 rfl ?_
    refine mj_iald d_Pi_fact_47 h4 (vp_in_nI hc (by decide)) ?_
    exact mj_iret rfl d_Pi_fact_48 ⟨by unfold pi_fact; rw [if_neg s_1_1, if_neg s_1_2, if_pos s_1_3, nI_clamp (by omega)], rfl⟩
  have ts_1_1 := lv_neT s_1_1 (show (1 : Int32).toInt = 1 by decide)
  have ts_1_2 := lv_neT s_1_2 (show (2 : Int32).toInt = 2 by decide)
  have ts_1_3 := lv_neT s_1_3 (show (3 : Int32).toInt = 3 by decide)
  refine mj_tableOut (tgt := 49) d_Pi_fact_1 (by omega) (by decide) ?_
  refine mj_aload_n d_Pi_fact_49 rfl ?_
  refine mj_iload_n d_Pi_fact_50 rfl ?_
  refine mj_cV (S := []) (S1 := [.int (nI (pi_on p c p.1))]) (c_Pi_columns P hc) d_Pi_fact_51 cw_Pi_columns ml_Pi_58 im_Pi_columns se_Pi_columns rfl h1 (by decide) rfl (Nat.le_of_ble_eq_true rfl) rfl rfl ?_
  refine mj_aload_n d_Pi_fact_54 rfl ?_
  refine mj_iload_n d_Pi_fact_55 rfl ?_
  refine mj_aload_n d_Pi_fact_56 rfl ?_
  refine mj_get ok_Pi (k := 1) (by decide) fl_Pi_28 d_Pi_fact_57 h1 rfl ?_
  refine mj_cV (S := [.int (nI (pi_on p c p.1))]) (S1 := [.int (nI (pi_on p c p.2.1)), .int (nI (pi_on p c p.1))]) (c_Pi_onStep P hc (by omega)) d_Pi_fact_60 cw_Pi_onStep ml_Pi_44 im_Pi_onStep se_Pi_onStep rfl h1 (by decide) rfl (Nat.le_of_ble_eq_true rfl) rfl rfl ?_
  refine mj_imul d_Pi_fact_63 ?_
  exact mj_iret rfl d_Pi_fact_64 ⟨by unfold pi_fact; rw [if_neg s_1_1, if_neg s_1_2, if_neg s_1_3], rfl⟩
