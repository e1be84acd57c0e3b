theorem mj_enterF {M : mj_M} {d : mj_D} {k n : Nat} {As : List Value} {h : mj_H} {Q : mj_E → mj_H → Prop} {r : Nat} (hh : M.2.2.2.2 = []) (hdn : d.2.2 = none) (hp : plainFor M.1 = true) (hn : (mj_en As).length + r = M.2.2.1) (hW : mj_W M Q d k n 0 (mj_en As ++ List.replicate r none) [] h) : mj_Met M d k n As h Q := by
  intro l G o hF
  rw [mj_hd0 hh]
  refine MetFree.of_bodySF (code := M.2.1) (maxLocals := M.2.2.1) (ret := M.2.2.2.1) hp ?_ ?_
  · intro args s m hb hnm
    obtain ⟨meth, c, h1, h2, h3, h4, h5, h6, -, -⟩ := Cond.code_spec hnm (atoms_spec (ws := [Cond.code M.1 M.2.1 M.2.2.1 M.2.2.2.1]) hb _ List.mem_cons_self)
    exact ⟨meth, c, h1, h2, h3, h4, h5, h6⟩
  · intro p e s m args below meth c s₁ B hml hP _
    obtain ⟨rfl, hR, hK⟩ := hP
    have hh0 : s₁.heap = s.heap := by rw [B.state]; rfl
    have hce := B.noHandlers (atoms_spec (ws := [Cond.code M.1 M.2.1 M.2.2.1 M.2.2.2.1]) B.pre _ List.mem_cons_self)
    have hct : c.exceptionTable.toList = [] := by
      have h9 : c.exceptionTable = #[] := Array.isEmpty_iff.mp hce
      rw [h9]
    have K := hW p l e (mj_rm d k n) s m (As.map (mj_v o)).toArray below meth c G o ⟨B.exec, B.bytes, hml, B.returns, findClass_of_methodNamed B.named, B.notSynchronized, (name_of_methodNamed B.named B.method).1, hK, Nat.le_refl _, Nat.le_refl _, hF, by rw [hct, hh]; rfl, fun q hq => by rw [hdn] at hq; cases hq⟩ s.heap [] 0 0 ⟨hR, fun _ _ => rfl, fun q hq => by cases hq⟩ (by rw [Nat.zero_add]; exact Nat.le_refl _) (by rw [Nat.zero_add]; exact Nat.le_refl _) _ (mj_lo hn)
    obtain ⟨t, a1, oc, b1, b2, b3⟩ := K s₁ hh0 (Stand.of_body B)
    refine ⟨t, oc, ?_, b1, b2, b3⟩
    rw [lg_entry_eq]
    exact a1
theorem mj_nle {x y : Int32} (h : ¬ x ≤ y) : y < x := Int32.not_le.mp h
theorem mj_nlt {x y : Int32} (h : x ≤ y) : ¬ y < x := Int32.not_lt.mpr h
set_option maxRecDepth 100000 in
set_option maxHeartbeats 4000000 in
theorem c_Ma_max {h : mj_H} (x y : Int32) : mj_Met M_Ma_max (0, 0, none) 0 0 [.int x, .int y] h (mj_q (some (.int (if x < y then y else x))) h) := by
  refine mj_enterF (r := 0) rfl rfl (by decide +kernel) rfl ?_
  show mj_W M_Ma_max _ _ _ _ 0 [some (.int x), some (.int y)] [] h
  refine mj_iload_n d_Ma_max_0 rfl ?_
  refine mj_iload_n d_Ma_max_1 rfl ?_
  refine mj_icmp_lt (tgt := 9) d_Ma_max_2 (by decide) (fun c_2 => ?_) (fun c_2 => ?_)
  · refine mj_iload_n d_Ma_max_9 rfl ?_
    exact mj_iret rfl d_Ma_max_10 ⟨by first | rw [if_pos c_2] | rw [if_neg c_2] | rw [if_pos (mj_nle c_2)] | rw [if_neg (mj_nlt c_2)], rfl⟩
  · refine mj_iload_n d_Ma_max_5 rfl ?_
    refine mj_goto (tgt := 10) d_Ma_max_6 (by decide) ?_
    exact mj_iret rfl d_Ma_max_10 ⟨by first | rw [if_pos c_2] | rw [if_neg c_2] | rw [if_pos (mj_nle c_2)] | rw [if_neg (mj_nlt c_2)], rfl⟩
set_option maxRecDepth 100000 in
set_option maxHeartbeats 4000000 in
theorem c_Ma_min {h : mj_H} (x y : Int32) : mj_Met M_Ma_min (0, 0, none) 0 0 [.int x, .int y] h (mj_q (some (.int (if y < x then y else x))) h) := by
  refine mj_enterF (r := 0) rfl rfl (by decide +kernel) rfl ?_
  show mj_W M_Ma_min _ _ _ _ 0 [some (.int x), some (.int y)] [] h
  refine mj_iload_n d_Ma_min_0 rfl ?_
  refine mj_iload_n d_Ma_min_1 rfl ?_
  refine mj_icmp_gt (tgt := 9) d_Ma_min_2 (by decide) (fun c_2 => ?_) (fun c_2 => ?_)
  · refine mj_iload_n d_Ma_min_9 rfl ?_
    exact mj_iret rfl d_Ma_min_10 ⟨by first | rw [if_pos c_2] | rw [if_neg c_2] | rw [if_pos (mj_nle c_2)] | rw [if_neg (mj_nlt c_2)], rfl⟩
  · refine mj_iload_n d_Ma_min_5 rfl ?_
    refine mj_goto (tgt := 10) d_Ma_min_6 (by decide) ?_
    exact mj_iret rfl d_Ma_min_10 ⟨by first | rw [if_pos c_2] | rw [if_neg c_2] | rw [if_pos (mj_nle c_2)] | rw [if_neg (mj_nlt c_2)], rfl⟩
def mj_fil (n : Nat) (v : Int32) (f : Nat → Int32) (k : Nat) : Nat → Int32 := fun i => if k ≤ i ∧ i < n then v else f i
set_option maxRecDepth 100000 in
set_option maxHeartbeats 4000000 in
theorem lp_Ar_fill {Q : mj_E → mj_H → Prop} {c n kc ks : Nat} (v : Int32) (hn : n < 2 ^ 31) : ∀ (j k : Nat) (f : Nat → Int32) (h : mj_H), h[c]? = some (.inl (n, .inl f)) → k + j = n → mj_W M_Ar_fill Q (0, 0, none) kc ks 20 [some (.ref c), some (.int v), some (.int (nI n)), some (.int (nI n))] [] (h.set c (.inl (n, .inl (mj_fil n v f k)))) → mj_W M_Ar_fill Q (0, 0, none) kc ks 5 [some (.ref c), some (.int v), some (.int (nI k)), some (.int (nI n))] [] h := by
  intro j
  induction j with
  | zero =>
    intro k f h hc hk kk
    refine mj_iload_n d_Ar_fill_5 rfl ?_
    refine mj_iload_n d_Ar_fill_6 rfl ?_
    refine mj_icmp_ge (tgt := 20) d_Ar_fill_7 (by decide) (fun c_7 => ?_) (fun c_7 => ?_)
    · have e9 : k = n := by omega
      subst e9
      rw [show mj_fil k v f k = f by funext i; unfold mj_fil; rw [if_neg (by omega)], mj_sE hc] at kk
      exact kk
    · exact absurd (nI_le (by omega) (by omega)) c_7
  | succ j ih =>
    intro k f h hc hk kk
    refine mj_iload_n d_Ar_fill_5 rfl ?_
    refine mj_iload_n d_Ar_fill_6 rfl ?_
    refine mj_icmp_ge (tgt := 20) d_Ar_fill_7 (by decide) (fun c_7 => ?_) (fun c_7 => ?_)
    · exact absurd c_7 (nI_ge (by omega) hn)
    · refine mj_aload_n d_Ar_fill_10 rfl ?_
      refine mj_iload_n d_Ar_fill_11 rfl ?_
      refine mj_iload_n d_Ar_fill_12 rfl ?_
      refine mj_iast d_Ar_fill_13 hc (vp_in_nI (by omega) hn) ?_
      obtain ⟨hh1, e_hh1⟩ : ∃ q_ : mj_H, q_ = h.set c (.inl (n, .inl (upd f ((nI k) : Int32).toNatClampNeg v))) := ⟨_, rfl⟩
      refine mj_hp e_hh1 ?_
      have k2 : hh1[c]? = some (.inl (n, .inl (upd f ((nI k) : Int32).toNatClampNeg v))) := by rw [e_hh1]; exact mj_sS hc
      obtain ⟨v3, e_v3⟩ : ∃ q_ : Int32, q_ = (nI k) + 1 := ⟨_, rfl⟩
      refine mj_iinc (x := (nI k)) (v := v3) (L' := [some (.ref c), some (.int v), some (.int v3), some (.int (nI n))]) d_Ar_fill_14 rfl (by rw [e_v3]; rfl) (by decide) rfl rfl ?_
      refine mj_goto (tgt := 5) d_Ar_fill_17 (by decide) ?_
      rw [e_v3, nI_1]
      refine ih (k + 1) _ _ k2 (by omega) ?_
      rw [e_hh1, List.set_set, nI_clamp (by omega)]
      rw [show mj_fil n v f k = mj_fil n v (upd f k v) (k + 1) by
        funext i
        unfold mj_fil upd
        by_cases q1 : k + 1 ≤ i ∧ i < n
        · rw [if_pos q1, if_pos (by omega)]
        · rw [if_neg q1]
          by_cases q2 : i = k
          · rw [if_pos q2, if_pos (by omega)]
          · rw [if_neg q2, if_neg (by omega)]] at kk
      exact kk
set_option maxRecDepth 100000 in
set_option maxHeartbeats 4000000 in
theorem c_Ar_fill {h : mj_H} {c n : Nat} {f : Nat → Int32} (hc : h[c]? = some (.inl (n, .inl f))) (v : Int32) (hn : n < 2 ^ 31) : mj_Met M_Ar_fill (0, 0, none) 0 0 [.ref c, .int v] h (mj_q none (h.set c (.inl (n, .inl (mj_fil n v f 0))))) := by
  refine mj_enter (r := 2) rfl rfl (by decide) rfl ?_
  show mj_W M_Ar_fill _ _ _ _ 0 [some (.ref c), some (.int v), none, none] [] h
  refine mj_iconst (v := 0) d_Ar_fill_0 (by decide) ?_
  refine mj_istore_n (L' := [some (.ref c), some (.int v), some (.int 0), none]) d_Ar_fill_1 (by decide) rfl rfl ?_
  refine mj_aload_n d_Ar_fill_2 rfl ?_
  refine mj_alen (v := nI n) d_Ar_fill_3 rfl hc rfl ?_
  refine mj_istore_n (L' := [some (.ref c), some (.int v), some (.int 0), some (.int (nI n))]) d_Ar_fill_4 (by decide) rfl rfl ?_
  refine lp_Ar_fill v hn n 0 f h hc (by omega) ?_
  exact mj_vret rfl d_Ar_fill_20 ⟨rfl, rfl⟩

def rf_lines (k : Int32) : Int32 := if k = 0 ∨ k = 1 then 1 else 4
set_option maxRecDepth 100000 in
set_option maxHeartbeats 4000000 in
theorem c_RF_linesOfChunk {h : mj_H} (k : Int32) : mj_Met M_RF_linesOfChunk (0, 0, none) 0 0 [.int k] h (mj_q (some (.int (rf_lines k))) h) := by
  refine mj_enter (r := 0) rfl rfl (by decide) rfl ?_
  show mj_W M_RF_linesOfChunk _ _ _ _ 0 [some (.int k)] [] h
  refine mj_iload_n d_RF_linesOfChunk_0 rfl ?_
  refine mj_if_eq (tgt := 9) d_RF_linesOfChunk_1 (by decide) (fun c_1 => ?_) (fun c_1 => ?_)
  · refine mj_iconst (v := 1) d_RF_linesOfChunk_9 (by decide) ?_
    refine mj_goto (tgt := 14) d_RF_linesOfChunk_10 (by decide) ?_
    exact mj_iret rfl d_RF_linesOfChunk_14 ⟨by unfold rf_lines; first | rw [if_pos (Or.inl c_1)] | rw [if_pos (Or.inr c_6)] | rw [if_neg (fun q => q.elim c_1 c_6)], rfl⟩
  · refine mj_iload_n d_RF_linesOfChunk_4 rfl ?_
    refine mj_iconst (v := 1) d_RF_linesOfChunk_5 (by decide) ?_
    refine mj_icmp_ne (tgt := 13) d_RF_linesOfChunk_6 (by decide) (fun c_6 => ?_) (fun c_6 => ?_)
    · refine mj_iconst (v := 4) d_RF_linesOfChunk_13 (by decide) ?_
      exact mj_iret rfl d_RF_linesOfChunk_14 ⟨by unfold rf_lines; first | rw [if_pos (Or.inl c_1)] | rw [if_pos (Or.inr c_6)] | rw [if_neg (fun q => q.elim c_1 c_6)], rfl⟩
    · refine mj_iconst (v := 1) d_RF_linesOfChunk_9 (by decide) ?_
      refine mj_goto (tgt := 14) d_RF_linesOfChunk_10 (by decide) ?_
      exact mj_iret rfl d_RF_linesOfChunk_14 ⟨by unfold rf_lines; first | rw [if_pos (Or.inl c_1)] | rw [if_pos (Or.inr c_6)] | rw [if_neg (fun q => q.elim c_1 c_6)], rfl⟩
def rf_bytes (t k : Int32) : Int32 := if t = 1 then (if k = 2 then 3 else 4) else 2
set_option maxRecDepth 100000 in
set_option maxHeartbeats 4000000 in
theorem c_RF_bytesOfSample {h : mj_H} (t k : Int32) : mj_Met M_RF_bytesOfSample (0, 0, none) 0 0 [.int t, .int k] h (mj_q (some (.int (rf_bytes t k))) h) := by
  refine mj_enter (r := 0) rfl rfl (by decide) rfl ?_
  show mj_W M_RF_bytesOfSample _ _ _ _ 0 [some (.int t), some (.int k)] [] h
  refine mj_iload_n d_RF_bytesOfSample_0 rfl ?_
  refine mj_iconst (v := 1) d_RF_bytesOfSample_1 (by decide) ?_
  refine mj_icmp_eq (tgt := 7) d_RF_bytesOfSample_2 (by decide) (fun c_2 => ?_) (fun c_2 => ?_)
  · refine mj_iload_n d_RF_bytesOfSample_7 rfl ?_
    refine mj_iconst (v := 2) d_RF_bytesOfSample_8 (by decide) ?_
    refine mj_icmp_ne (tgt := 16) d_RF_bytesOfSample_9 (by decide) (fun c_9 => ?_) (fun c_9 => ?_)
    · refine mj_iconst (v := 4) d_RF_bytesOfSample_16 (by decide) ?_
      exact mj_iret rfl d_RF_bytesOfSample_17 ⟨by unfold rf_bytes; first | rw [if_pos c_2, if_neg c_9] | rw [if_pos c_2, if_pos c_9] | rw [if_neg c_2], rfl⟩
    · refine mj_iconst (v := 3) d_RF_bytesOfSample_12 (by decide) ?_
      refine mj_goto (tgt := 17) d_RF_bytesOfSample_13 (by decide) ?_
      exact mj_iret rfl d_RF_bytesOfSample_17 ⟨by unfold rf_bytes; first | rw [if_pos c_2, if_neg c_9] | rw [if_pos c_2, if_pos c_9] | rw [if_neg c_2], rfl⟩
  · refine mj_iconst (v := 2) d_RF_bytesOfSample_5 (by decide) ?_
    exact mj_iret rfl d_RF_bytesOfSample_6 ⟨by unfold rf_bytes; first | rw [if_pos c_2, if_neg c_9] | rw [if_pos c_2, if_pos c_9] | rw [if_neg c_2], rfl⟩
