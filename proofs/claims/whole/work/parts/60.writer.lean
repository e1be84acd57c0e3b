section MJX
variable {M : mj_M} {Q : mj_E → mj_H → Prop} {d : mj_D} {kc ks pc : Nat} {L : List (Option Value)} {S : List Value} {h : mj_H}
/-- an array outside the list that may be read -/
def mj_hx (M : mj_M) (d : mj_D) (k N : Nat) (xs : Nat → Int32) : Prop := ∀ (p : Program) (l : Launch) (R : Room) (s : State) (m : MethodId) (meth : Method) (c : Code) (G : mj_G) (o : mj_A), mj_X M G o d p l R s m meth c → va_X (o.2 k) N xs s s.heap ∧ o.2 k < o.1
theorem mj_hxM : mj_hx M d 0 4 mj_mg := fun _ _ _ _ _ _ _ _ _ X => ⟨X.2.2.2.2.2.2.2.1.2.2.2.2.2.1, X.2.2.2.2.2.2.2.1.2.2.2.2.2.2.1⟩
theorem mj_hxS {N : Nat} {xs : Nat → Int32} (hd : d.2.2 = some (N, xs)) : mj_hx M d 1 N xs := fun _ _ _ _ _ _ _ _ _ X => X.2.2.2.2.2.2.2.2.2.2.2.2 (N, xs) hd
theorem mj_xald {k N : Nat} {xs : Nat → Int32} {i : Int32} (hx : mj_hx M d k N xs) (hdg : decode M.2.1 pc = .ok (.iaload, 1)) (hin : vp_in i N) (kk : mj_W M Q d kc ks (pc + 1) L (.int (xs i.toNatClampNeg) :: S) h) : mj_W M Q d kc ks pc L (.int i :: .retAddr k :: S) h := by
  intro p l e R s m args below meth c G o X H locs cells slots hS hk1 hk2 ls hl
  obtain ⟨⟨scr, h1, h2, h3, h4, h5⟩, hlt⟩ := hx p l R s m meth c G o X
  have hlN : i.toNatClampNeg < N := Nat.not_le.mp fun q => hin (Or.inr q)
  exact W.iald (v := .int (xs i.toNatClampNeg)) X.1 X.2.1 (by rw [hS.2.1 _ hlt]; exact h1) h2 h3 (by rw [h4]; exact hin) (h5 _ hlN) rfl rfl hdg (kk p l e R s m args below meth c G o X H locs cells slots hS hk1 hk2 ls hl)
theorem mj_xlen {k N : Nat} {xs : Nat → Int32} {v : Int32} (hx : mj_hx M d k N xs) (hdg : decode M.2.1 pc = .ok (.arraylength, 1)) (hv : Int32.ofNat N = v) (kk : mj_W M Q d kc ks (pc + 1) L (.int v :: S) h) : mj_W M Q d kc ks pc L (.retAddr k :: S) h := by
  intro p l e R s m args below meth c G o X H locs cells slots hS hk1 hk2 ls hl
  obtain ⟨⟨scr, h1, h2, h3, h4, h5⟩, hlt⟩ := hx p l R s m meth c G o X
  exact W.alen (n := v) X.1 X.2.1 (by rw [hS.2.1 _ hlt]; exact h1) h2 (by rw [h4]; exact hv) rfl rfl hdg (kk p l e R s m args below meth c G o X H locs cells slots hS hk1 hk2 ls hl)
theorem mj_mags {index : Nat} {host : String} (hdg : decode M.2.1 pc = .ok (.getstatic index, 3)) (hw : mj_in (.fieldLinkNest M.1.cls index "RasterForge" "MAGIC" "[I" host)) (kk : mj_W M Q d kc ks (pc + 3) L (.retAddr 0 :: S) h) : mj_W M Q d kc ks pc L S h := by
  intro p l e R s m args below meth c G o X H locs cells slots hS hk1 hk2 ls hl
  obtain ⟨cf, kf, fi, f, a, cell, g1, g2, g3, g4, g5, g6, g7, g8⟩ := X.2.2.2.2.2.2.2.1.2.2.2.2.1
  exact va_WgetsN X.1 X.2.1 X.2.2.2.2.1 (X.2.2.2.2.2.2.2.1.2.1 _ hw args) g1 g2 g3 g4 (by rw [hS.2.1 a (Nat.not_le.mp g8)]; exact g5) (fun e => by rw [e] at g6; cases g6) g7 rfl hdg (kk p l e R s m args below meth c G o X H locs cells slots hS hk1 hk2 ls hl)
end MJX
/-! Writer -/
def wr_mg : Nat → Nat → by_B → by_B
  | 0, _, b => b
  | j + 1, k, b => wr_mg j (k + 1) (by_add 1500 b (mj_mg k))
def wr_ch (p : pi_P) : Nat → Nat → by_B → by_B
  | 0, _, b => b
  | j + 1, c, b => wr_ch p j (c + 1) (by_add 1500 (by_add 1500 (by_add 1500 b (p.2.2.2.1 c)) (p.2.2.2.2.1 c)) (p.2.2.2.2.2.1 c))
def wr_hd (p : pi_P) (k : Nat) (b : by_B) : by_B := wr_ch p p.2.2.1 0 (by_add 1500 (by_add 1500 (by_add 1500 (by_add 1500 (by_add 1500 (wr_mg 4 0 b) 2) (nI p.1)) (nI p.2.1)) (nI k)) (nI p.2.2.1))
theorem wr_mg_le : ∀ (j k : Nat) (b : by_B), b.1 ≤ 1500 → (wr_mg j k b).1 ≤ 1500
  | 0, _, _, h => h
  | j + 1, k, b, h => wr_mg_le j (k + 1) _ (by_add_le _ h)
theorem wr_ch_le (p : pi_P) : ∀ (j c : Nat) (b : by_B), b.1 ≤ 1500 → (wr_ch p j c b).1 ≤ 1500
  | 0, _, _, h => h
  | j + 1, c, b, h => wr_ch_le p j (c + 1) _ (by_add_le _ (by_add_le _ (by_add_le _ h)))
theorem wr_hd_le (p : pi_P) (k : Nat) (b : by_B) (h : b.1 ≤ 1500) : (wr_hd p k b).1 ≤ 1500 := wr_ch_le _ _ _ _ (by_add_le _ (by_add_le _ (by_add_le _ (by_add_le _ (by_add_le _ (wr_mg_le _ _ _ h))))))
set_option maxRecDepth 100000 in
set_option maxHeartbeats 4000000 in
theorem lp_Wr_writeHead_m {Q : mj_E → mj_H → Prop} {a k kc ks : Nat} : ∀ (j i : Nat) (b : by_B) (h : mj_H), By h 1 2 1500 b → i + j = 4 → mj_W M_Wr_writeHead Q (1, 21, none) kc ks 28 [some (.ref 13), some (.ref a), some (.int (nI k)), some (.ref 1), none] [] (by_up h 1 2 1500 (wr_mg j i b)) → mj_W M_Wr_writeHead Q (1, 21, none) kc ks 3 [some (.ref 13), some (.ref a), some (.int (nI k)), some (.ref 1), some (.int (nI i))] [] h := by
  intro j
  induction j with
  | zero =>
    intro i b h B hi kk
    obtain ⟨b1, b2, b3, b4⟩ := id B
    refine mj_iload d_Wr_writeHead_3 rfl ?_
    refine mj_mags d_Wr_writeHead_5 fn_Wr_54 ?_
    refine mj_xlen (v := 4) mj_hxM d_Wr_writeHead_8 rfl ?_
    refine mj_icmp_ge (tgt := 28) d_Wr_writeHead_9 (by decide) (fun c_9 => ?_) (fun c_9 => ?_)
    · refine mj_fg 4 (L' := [some (.ref 13), some (.ref a), some (.int (nI k)), some (.ref 1), none]) rfl ?_
      rw [show wr_mg 0 i b = b from rfl, B.idn] at kk
      exact kk
    · exact absurd (nI_le (a := 4) (b := i) (by omega) (by omega)) c_9
  | succ j ih =>
    intro i b h B hi kk
    obtain ⟨b1, b2, b3, b4⟩ := id B
    refine mj_iload d_Wr_writeHead_3 rfl ?_
    refine mj_mags d_Wr_writeHead_5 fn_Wr_54 ?_
    refine mj_xlen (v := 4) mj_hxM d_Wr_writeHead_8 rfl ?_
    refine mj_icmp_ge (tgt := 28) d_Wr_writeHead_9 (by decide) (fun c_9 => ?_) (fun c_9 => ?_)
    · exact absurd c_9 (nI_ge (a := i) (b := 4) (by omega) (by omega))
    · refine mj_aload_n d_Wr_writeHead_12 rfl ?_
      refine mj_mags d_Wr_writeHead_13 fn_Wr_54 ?_
      refine mj_iload d_Wr_writeHead_16 rfl ?_
      refine mj_xald mj_hxM d_Wr_writeHead_18 (vp_in_nI (by omega) (by decide)) ?_
      rw [nI_clamp (by omega)]
      refine mj_cV (S := []) (S1 := []) (c_By_add B (mj_mg i)) d_Wr_writeHead_19 cw_By_add ml_Wr_46 im_By_add se_By_add rfl b1 (by decide) rfl (Nat.le_of_ble_eq_true rfl) rfl rfl ?_
      obtain ⟨v1, e_v1⟩ : ∃ q_ : Int32, q_ = (nI i) + 1 := ⟨_, rfl⟩
      refine mj_iinc (x := (nI i)) (v := v1) (L' := [some (.ref 13), some (.ref a), some (.int (nI k)), some (.ref 1), some (.int v1)]) d_Wr_writeHead_22 rfl (by rw [e_v1]; rfl) (by decide) rfl rfl ?_
      refine mj_goto (tgt := 3) d_Wr_writeHead_25 (by decide) ?_
      rw [e_v1, nI_1]
      refine ih (i + 1) _ _ (B.up (by_add_le _ b3)) (by omega) ?_
      rw [B.upup]
      exact kk
set_option maxRecDepth 100000 in
set_option maxHeartbeats 4000000 in
theorem lp_Wr_writeHead_c {Q : mj_E → mj_H → Prop} {a l t s m : Nat} {p : pi_P} {k kc ks : Nat} (z : 17 ≤ a ∧ 17 ≤ l ∧ 17 ≤ t ∧ 17 ≤ s ∧ 17 ≤ m) : ∀ (j i : Nat) (b : by_B) (h : mj_H), By h 1 2 1500 b → Pi h a l t s m p → i + j = p.2.2.1 → mj_W M_Wr_writeHead Q (1, 21, none) kc ks 113 [some (.ref 13), some (.ref a), some (.int (nI k)), some (.ref 1), none] [] (by_up h 1 2 1500 (wr_ch p j i b)) → mj_W M_Wr_writeHead Q (1, 21, none) kc ks 65 [some (.ref 13), some (.ref a), some (.int (nI k)), some (.ref 1), some (.int (nI i))] [] h := by
  intro j
  induction j with
  | zero =>
    intro i b h B P hi kk
    obtain ⟨b1, b2, b3, b4⟩ := id B
    obtain ⟨h1, h2, h3, h4, h5, ⟨n1, n2, n3, n4, n5, n6⟩, w1, w2, w3⟩ := id P
    refine mj_iload d_Wr_writeHead_65 rfl ?_
    refine mj_aload_n d_Wr_writeHead_67 rfl ?_
    refine mj_get ok_Pi (k := 2) (by decide) fl_Wr_64 d_Wr_writeHead_68 h1 rfl ?_
    refine mj_icmp_ge (tgt := 113) d_Wr_writeHead_71 (by decide) (fun c_71 => ?_) (fun c_71 => ?_)
    · refine mj_fg 4 (L' := [some (.ref 13), some (.ref a), some (.int (nI k)), some (.ref 1), none]) rfl ?_
      rw [show wr_ch p 0 i b = b from rfl, B.idn] at kk
      exact kk
    · exact absurd (nI_le (by omega) (by omega)) c_71
  | succ j ih =>
    intro i b h B P hi kk
    obtain ⟨b1, b2, b3, b4⟩ := id B
    obtain ⟨h1, h2, h3, h4, h5, ⟨n1, n2, n3, n4, n5, n6⟩, w1, w2, w3⟩ := id P
    refine mj_iload d_Wr_writeHead_65 rfl ?_
    refine mj_aload_n d_Wr_writeHead_67 rfl ?_
    refine mj_get ok_Pi (k := 2) (by decide) fl_Wr_64 d_Wr_writeHead_68 h1 rfl ?_
    refine mj_icmp_ge (tgt := 113) d_Wr_writeHead_71 (by decide) (fun c_71 => ?_) (fun c_71 => ?_)
    · exact absurd c_71 (nI_ge (by omega) (by omega))
    · refine mj_aload_n d_Wr_writeHead_74 rfl ?_
      refine mj_aload_n d_Wr_writeHead_75 rfl ?_
      refine mj_get ok_Pi (k := 3) (by decide) fl_Wr_67 d_Wr_writeHead_76 h1 rfl ?_
      refine mj_iload d_Wr_writeHead_79 rfl ?_
      refine mj_iald d_Wr_writeHead_81 h2 (vp_in_nI (by omega) (by decide)) ?_
      rw [nI_clamp (by omega)]
      refine mj_cV (S := []) (S1 := []) (c_By_add B (p.2.2.2.1 i)) d_Wr_writeHead_82 cw_By_add ml_Wr_46 im_By_add se_By_add rfl b1 (by decide) rfl (Nat.le_of_ble_eq_true rfl) rfl rfl ?_
      have B1 := B.up (b' := by_add 1500 b (p.2.2.2.1 i)) (by_add_le _ b3)
      have P1 := B.pic (b' := by_add 1500 b (p.2.2.2.1 i)) P (by decide) (by decide) z
      obtain ⟨x11, x12, -, -⟩ := id B1
      obtain ⟨y11, y12, y13, y14, y15, -⟩ := id P1
      refine mj_aload_n d_Wr_writeHead_85 rfl ?_
      refine mj_aload_n d_Wr_writeHead_86 rfl ?_
      refine mj_get ok_Pi (k := 4) (by decide) fl_Wr_70 d_Wr_writeHead_87 y11 rfl ?_
      refine mj_iload d_Wr_writeHead_90 rfl ?_
      refine mj_iald d_Wr_writeHead_92 y13 (vp_in_nI (by omega) (by decide)) ?_
      rw [nI_clamp (by omega)]
      refine mj_cV (S := []) (S1 := []) (c_By_add B1 (p.2.2.2.2.1 i)) d_Wr_writeHead_93 cw_By_add ml_Wr_46 im_By_add se_By_add rfl x11 (by decide) rfl (Nat.le_of_ble_eq_true rfl) rfl rfl ?_
      rw [B.upup]
      have B2 := B.up (b' := by_add 1500 (by_add 1500 b (p.2.2.2.1 i)) (p.2.2.2.2.1 i)) (by_add_le _ B1.2.2.1)
      have P2 := B.pic (b' := by_add 1500 (by_add 1500 b (p.2.2.2.1 i)) (p.2.2.2.2.1 i)) P (by decide) (by decide) z
      obtain ⟨x21, x22, -, -⟩ := id B2
      obtain ⟨y21, y22, y23, y24, y25, -⟩ := id P2
      refine mj_aload_n d_Wr_writeHead_96 rfl ?_
      refine mj_aload_n d_Wr_writeHead_97 rfl ?_
      refine mj_get ok_Pi (k := 5) (by decide) fl_Wr_73 d_Wr_writeHead_98 y21 rfl ?_
      refine mj_iload d_Wr_writeHead_101 rfl ?_
      refine mj_iald d_Wr_writeHead_103 y24 (vp_in_nI (by omega) (by decide)) ?_
      rw [nI_clamp (by omega)]
      refine mj_cV (S := []) (S1 := []) (c_By_add B2 (p.2.2.2.2.2.1 i)) d_Wr_writeHead_104 cw_By_add ml_Wr_46 im_By_add se_By_add rfl x21 (by decide) rfl (Nat.le_of_ble_eq_true rfl) rfl rfl ?_
      rw [B.upup]
      have B3 := B.up (b' := by_add 1500 (by_add 1500 (by_add 1500 b (p.2.2.2.1 i)) (p.2.2.2.2.1 i)) (p.2.2.2.2.2.1 i)) (by_add_le _ B2.2.2.1)
      have P3 := B.pic (b' := by_add 1500 (by_add 1500 (by_add 1500 b (p.2.2.2.1 i)) (p.2.2.2.2.1 i)) (p.2.2.2.2.2.1 i)) P (by decide) (by decide) z
      obtain ⟨x31, x32, -, -⟩ := id B3
      obtain ⟨y31, y32, y33, y34, y35, -⟩ := id P3
      obtain ⟨v1, e_v1⟩ : ∃ q_ : Int32, q_ = (nI i) + 1 := ⟨_, rfl⟩
      refine mj_iinc (x := (nI i)) (v := v1) (L' := [some (.ref 13), some (.ref a), some (.int (nI k)), some (.ref 1), some (.int v1)]) d_Wr_writeHead_107 rfl (by rw [e_v1]; rfl) (by decide) rfl rfl ?_
      refine mj_goto (tgt := 65) d_Wr_writeHead_110 (by decide) ?_
      rw [e_v1, nI_1]
      refine ih (i + 1) _ _ B3 P3 (by omega) ?_
      rw [B.upup]
      exact kk
set_option maxRecDepth 100000 in
set_option maxHeartbeats 4000000 in
theorem c_Wr_writeHead {h : mj_H} {b : by_B} {a l t s m : Nat} {p : pi_P} (B : By h 1 2 1500 b) (P : Pi h a l t s m p) (z : 17 ≤ a ∧ 17 ≤ l ∧ 17 ≤ t ∧ 17 ≤ s ∧ 17 ≤ m) (k : Nat) : mj_Met M_Wr_writeHead (1, 21, none) 0 0 [.ref 13, .ref a, .int (nI k), .ref 1] h (mj_q none (by_up h 1 2 1500 (wr_hd p k b))) := by
  have b3 := B.2.2.1
  refine mj_enter (r := 1) rfl rfl (by decide) rfl ?_
  show mj_W M_Wr_writeHead _ _ _ _ 0 [some (.ref 13), some (.ref a), some (.int (nI k)), some (.ref 1), none] [] h
  refine mj_iconst (v := 0) d_Wr_writeHead_0 (by decide) ?_
  refine mj_istore (L' := [some (.ref 13), some (.ref a), some (.int (nI k)), some (.ref 1), some (.int 0)]) d_Wr_writeHead_1 (by decide) rfl rfl ?_
  refine lp_Wr_writeHead_m 4 0 b h B (by omega) ?_
  have B0 := B.up (b' := wr_mg 4 0 b) (wr_mg_le _ _ _ b3)
  have P0 := B.pic (b' := wr_mg 4 0 b) P (by decide) (by decide) z
  obtain ⟨x01, x02, -, -⟩ := id B0
  obtain ⟨y01, y02, y03, y04, y05, -⟩ := id P0
  refine mj_aload_n d_Wr_writeHead_28 rfl ?_
  refine mj_iconst (v := 2) d_Wr_writeHead_29 (by decide) ?_
  refine mj_cV (S := []) (S1 := []) (c_By_add B0 2) d_Wr_writeHead_30 cw_By_add ml_Wr_46 im_By_add se_By_add rfl x01 (by decide) rfl (Nat.le_of_ble_eq_true rfl) rfl rfl ?_
  rw [B.upup]
  have B1 := B.up (b' := by_add 1500 (wr_mg 4 0 b) 2) (by_add_le _ B0.2.2.1)
  have P1 := B.pic (b' := by_add 1500 (wr_mg 4 0 b) 2) P (by decide) (by decide) z
  obtain ⟨x11, x12, -, -⟩ := id B1
  obtain ⟨y11, y12, y13, y14, y15, -⟩ := id P1
  refine mj_aload_n d_Wr_writeHead_33 rfl ?_
  refine mj_aload_n d_Wr_writeHead_34 rfl ?_
  refine mj_get ok_Pi (k := 0) (by decide) fl_Wr_58 d_Wr_writeHead_35 y11 rfl ?_
  refine mj_cV (S := []) (S1 := []) (c_By_add B1 (nI p.1)) d_Wr_writeHead_38 cw_By_add ml_Wr_46 im_By_add se_By_add rfl x11 (by decide) rfl (Nat.le_of_ble_eq_true rfl) rfl rfl ?_
  rw [B.upup]
  have B2 := B.up (b' := by_add 1500 (by_add 1500 (wr_mg 4 0 b) 2) (nI p.1)) (by_add_le _ B1.2.2.1)
  have P2 := B.pic (b' := by_add 1500 (by_add 1500 (wr_mg 4 0 b) 2) (nI p.1)) P (by decide) (by decide) z
  obtain ⟨x21, x22, -, -⟩ := id B2
  obtain ⟨y21, y22, y23, y24, y25, -⟩ := id P2
  refine mj_aload_n d_Wr_writeHead_41 rfl ?_
  refine mj_aload_n d_Wr_writeHead_42 rfl ?_
  refine mj_get ok_Pi (k := 1) (by decide) fl_Wr_61 d_Wr_writeHead_43 y21 rfl ?_
  refine mj_cV (S := []) (S1 := []) (c_By_add B2 (nI p.2.1)) d_Wr_writeHead_46 cw_By_add ml_Wr_46 im_By_add se_By_add rfl x21 (by decide) rfl (Nat.le_of_ble_eq_true rfl) rfl rfl ?_
  rw [B.upup]
  have B3 := B.up (b' := by_add 1500 (by_add 1500 (by_add 1500 (wr_mg 4 0 b) 2) (nI p.1)) (nI p.2.1)) (by_add_le _ B2.2.2.1)
  have P3 := B.pic (b' := by_add 1500 (by_add 1500 (by_add 1500 (wr_mg 4 0 b) 2) (nI p.1)) (nI p.2.1)) P (by decide) (by decide) z
  obtain ⟨x31, x32, -, -⟩ := id B3
  obtain ⟨y31, y32, y33, y34, y35, -⟩ := id P3
  refine mj_aload_n d_Wr_writeHead_49 rfl ?_
  refine mj_iload_n d_Wr_writeHead_50 rfl ?_
  refine mj_cV (S := []) (S1 := []) (c_By_add B3 (nI k)) d_Wr_writeHead_51 cw_By_add ml_Wr_46 im_By_add se_By_add rfl x31 (by decide) rfl (Nat.le_of_ble_eq_true rfl) rfl rfl ?_
  rw [B.upup]
  have B4 := B.up (b' := by_add 1500 (by_add 1500 (by_add 1500 (by_add 1500 (wr_mg 4 0 b) 2) (nI p.1)) (nI p.2.1)) (nI k)) (by_add_le _ B3.2.2.1)
  have P4 := B.pic (b' := by_add 1500 (by_add 1500 (by_add 1500 (by_add 1500 (wr_mg 4 0 b) 2) (nI p.1)) (nI p.2.1)) (nI k)) P (by decide) (by decide) z
  obtain ⟨x41, x42, -, -⟩ := id B4
  obtain ⟨y41, y42, y43, y44, y45, -⟩ := id P4
  refine mj_aload_n d_Wr_writeHead_54 rfl ?_
  refine mj_aload_n d_Wr_writeHead_55 rfl ?_
  refine mj_get ok_Pi (k := 2) (by decide) fl_Wr_64 d_Wr_writeHead_56 y41 rfl ?_
  refine mj_cV (S := []) (S1 := []) (c_By_add B4 (nI p.2.2.1)) d_Wr_writeHead_59 cw_By_add ml_Wr_46 im_By_add se_By_add rfl x41 (by decide) rfl (Nat.le_of_ble_eq_true rfl) rfl rfl ?_
  rw [B.upup]
  have B5 := B.up (b' := by_add 1500 (by_add 1500 (by_add 1500 (by_add 1500 (by_add 1500 (wr_mg 4 0 b) 2) (nI p.1)) (nI p.2.1)) (nI k)) (nI p.2.2.1)) (by_add_le _ B4.2.2.1)
  have P5 := B.pic (b' := by_add 1500 (by_add 1500 (by_add 1500 (by_add 1500 (by_add 1500 (wr_mg 4 0 b) 2) (nI p.1)) (nI p.2.1)) (nI k)) (nI p.2.2.1)) P (by decide) (by decide) z
  obtain ⟨x51, x52, -, -⟩ := id B5
  obtain ⟨y51, y52, y53, y54, y55, -⟩ := id P5
  refine mj_iconst (v := 0) d_Wr_writeHead_62 (by decide) ?_
  refine mj_istore (L' := [some (.ref 13), some (.ref a), some (.int (nI k)), some (.ref 1), some (.int 0)]) d_Wr_writeHead_63 (by decide) rfl rfl ?_
  refine lp_Wr_writeHead_c z p.2.2.1 0 _ _ B5 P5 (by omega) ?_
  rw [B.upup]
  exact mj_vret rfl d_Wr_writeHead_113 ⟨rfl, rfl⟩
