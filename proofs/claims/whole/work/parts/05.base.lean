theorem mj_sS {h : mj_H} {a : Nat} {x y : mj_C} (hx : h[a]? = some x) : (h.set a y)[a]? = some y := List.getElem?_set_self (List.getElem?_eq_some_iff.mp hx).1
theorem mj_sN {h : mj_H} {a b : Nat} {x y : mj_C} (hn : a ≠ b) (hx : h[b]? = some x) : (h.set a y)[b]? = some x := by rw [List.getElem?_set_ne hn]; exact hx
theorem mj_sE {h : mj_H} {a : Nat} {x : mj_C} (hx : h[a]? = some x) : h.set a x = h := by
  apply List.ext_getElem?
  intro i
  by_cases hi : i = a
  · subst hi
    rw [mj_sS hx, hx]
  · rw [List.getElem?_set_ne (fun q => hi q.symm)]
theorem mj_ne {h : mj_H} {a c : Nat} {x : Nat × List Value} {y : vp_A} (ha : h[a]? = some (.inr x)) (hc : h[c]? = some (.inl y)) : a ≠ c := by
  intro q
  rw [q, hc] at ha
  cases ha
theorem mj_hp {M : mj_M} {Q : mj_E → mj_H → Prop} {d : mj_D} {kc ks pc : Nat} {L : List (Option Value)} {S : List Value} {h h1 : mj_H} (e : h1 = h) (k : mj_W M Q d kc ks pc L S h1) : mj_W M Q d kc ks pc L S h := e ▸ k
theorem mj_lt {x y : Int32} (h : ¬ y ≤ x) : x < y := Int32.not_le.mp h
theorem mj_nl {x y : Int32} (h : y ≤ x) : ¬ x < y := Int32.not_lt.mpr h
/-- one end, one heap -/
def mj_q (v : Option Value) (h1 : mj_H) : mj_E → mj_H → Prop := fun r h' => r = .inl v ∧ h' = h1
theorem mj_qn {v : Option Value} {h1 : mj_H} : ∀ a h', ¬ mj_q v h1 (.inr a) h' := fun _ _ q => by cases q.1
section MJD
variable {M M' : mj_M} {Q : mj_E → mj_H → Prop} {d d' : mj_D} {kc ks pc k' n' : Nat} {L : List (Option Value)} {S : List Value} {h h1 : mj_H} {As : List Value} {index : Nat} {v : Option Value} {S0 S1 : List Value}
theorem mj_cS {n : Nat} (hM : mj_Met M' d' k' n' As h (mj_q v h1)) (hdg : decode M.2.1 pc = .ok (.invokestatic index, 3)) (cw : mj_cw M' n) (hl : mj_in (.methodLink M.1.cls index M'.1)) (hst : mj_in (.static M'.1)) (hd : d'.1 + 1 ≤ d.1 ∧ 19 + M'.2.2.1 + d'.2.1 ≤ d.2.1) (hn : As.length = n) (hr : mj_rw S) (hS0 : S0 = As.reverse ++ S) (hS1 : v.toList ++ S = S1)
    (kk : mj_W M Q d kc ks (pc + 3) L S1 h1) : mj_W M Q d (kc + k') (ks + n') pc L S0 h :=
  mj_invS hdg cw hl hst hM mj_qn hd hn hr hS0 (fun v' h' q => by obtain ⟨e1, e2⟩ := q; cases e1; subst e2; rw [hS1]; exact kk)
theorem mj_cSN {n : Nat} {host : String} (hM : mj_Met M' d' k' n' As h (mj_q v h1)) (hdg : decode M.2.1 pc = .ok (.invokestatic index, 3)) (cw : mj_cw M' n) (hl : mj_in (.methodLinkNest M.1.cls index M'.1 host)) (hst : mj_in (.static M'.1)) (hd : d'.1 + 1 ≤ d.1 ∧ 19 + M'.2.2.1 + d'.2.1 ≤ d.2.1) (hn : As.length = n) (hr : mj_rw S) (hS0 : S0 = As.reverse ++ S) (hS1 : v.toList ++ S = S1)
    (kk : mj_W M Q d kc ks (pc + 3) L S1 h1) : mj_W M Q d (kc + k') (ks + n') pc L S0 h :=
  mj_invSN hdg cw hl hst hM mj_qn hd hn hr hS0 (fun v' h' q => by obtain ⟨e1, e2⟩ := q; cases e1; subst e2; rw [hS1]; exact kk)
theorem mj_cV {n a ci N : Nat} {T : u_T} {fs : List Value} (hM : mj_Met M' d' k' n' (.ref a :: As) h (mj_q v h1)) (hdg : decode M.2.1 pc = .ok (.invokevirtual index, 3)) (cw : mj_cw M' n) (hl : mj_in (.methodLink M.1.cls index M'.1)) (hin : mj_in (.instanceMethod M'.1)) (hse : mj_in (.selects M'.1.cls M'.1 M'.1)) (hc : mj_cl[ci]? = some (M'.1.cls, T, N)) (ha : h[a]? = some (.inr (ci, fs))) (hd : d'.1 + 1 ≤ d.1 ∧ 19 + M'.2.2.1 + d'.2.1 ≤ d.2.1) (hn : As.length = n) (hr : mj_rw S) (hS0 : S0 = As.reverse ++ .ref a :: S) (hS1 : v.toList ++ S = S1)
    (kk : mj_W M Q d kc ks (pc + 3) L S1 h1) : mj_W M Q d (kc + k') (ks + n') pc L S0 h :=
  mj_invV hdg cw hl hin hse hc ha hM mj_qn hd hn hr hS0 (fun v' h' q => by obtain ⟨e1, e2⟩ := q; cases e1; subst e2; rw [hS1]; exact kk)
theorem mj_cVN {n a ci N : Nat} {T : u_T} {fs : List Value} {host : String} (hM : mj_Met M' d' k' n' (.ref a :: As) h (mj_q v h1)) (hdg : decode M.2.1 pc = .ok (.invokevirtual index, 3)) (cw : mj_cw M' n) (hl : mj_in (.methodLinkNest M.1.cls index M'.1 host)) (hin : mj_in (.instanceMethod M'.1)) (hse : mj_in (.selects M'.1.cls M'.1 M'.1)) (hc : mj_cl[ci]? = some (M'.1.cls, T, N)) (ha : h[a]? = some (.inr (ci, fs))) (hd : d'.1 + 1 ≤ d.1 ∧ 19 + M'.2.2.1 + d'.2.1 ≤ d.2.1) (hn : As.length = n) (hr : mj_rw S) (hS0 : S0 = As.reverse ++ .ref a :: S) (hS1 : v.toList ++ S = S1)
    (kk : mj_W M Q d kc ks (pc + 3) L S1 h1) : mj_W M Q d (kc + k') (ks + n') pc L S0 h :=
  mj_invVN hdg cw hl hin hse hc ha hM mj_qn hd hn hr hS0 (fun v' h' q => by obtain ⟨e1, e2⟩ := q; cases e1; subst e2; rw [hS1]; exact kk)
theorem mj_cI {n a : Nat} (hM : mj_Met M' d' k' n' (.ref a :: As) h (mj_q v h1)) (hret : M'.2.2.2.1 = none) (hnm : M'.1.name = "<init>") (hdg : decode M.2.1 pc = .ok (.invokespecial index, 3)) (cw : mj_cw M' n) (hl : mj_in (.methodLink M.1.cls index M'.1)) (hin : mj_in (.instanceMethod M'.1)) (hd : d'.1 + 1 ≤ d.1 ∧ 19 + M'.2.2.1 + d'.2.1 ≤ d.2.1) (hn : As.length = n) (hr : mj_rw S) (hS0 : S0 = As.reverse ++ .ref a :: S) (hS1 : v.toList ++ S = S1)
    (kk : mj_W M Q d kc ks (pc + 3) L S1 h1) : mj_W M Q d (kc + k') (ks + n') pc L S0 h :=
  mj_invI hret hnm hdg cw hl hin hM mj_qn hd hn hr hS0 (fun v' h' q => by obtain ⟨e1, e2⟩ := q; cases e1; subst e2; rw [hS1]; exact kk)
theorem mj_cIN {n a : Nat} {host : String} (hM : mj_Met M' d' k' n' (.ref a :: As) h (mj_q v h1)) (hret : M'.2.2.2.1 = none) (hnm : M'.1.name = "<init>") (hdg : decode M.2.1 pc = .ok (.invokespecial index, 3)) (cw : mj_cw M' n) (hl : mj_in (.methodLinkNest M.1.cls index M'.1 host)) (hin : mj_in (.instanceMethod M'.1)) (hd : d'.1 + 1 ≤ d.1 ∧ 19 + M'.2.2.1 + d'.2.1 ≤ d.2.1) (hn : As.length = n) (hr : mj_rw S) (hS0 : S0 = As.reverse ++ .ref a :: S) (hS1 : v.toList ++ S = S1)
    (kk : mj_W M Q d kc ks (pc + 3) L S1 h1) : mj_W M Q d (kc + k') (ks + n') pc L S0 h :=
  mj_invIN hret hnm hdg cw hl hin hM mj_qn hd hn hr hS0 (fun v' h' q => by obtain ⟨e1, e2⟩ := q; cases e1; subst e2; rw [hS1]; exact kk)
end MJD
theorem ok_RF : mj_ok 0 "RasterForge" T_RF 7 ty_RF := ⟨rfl, fun w hw => mj_t1 ((by decide +kernel : ∀ w ∈ u_ws "RasterForge" T_RF 7, w ∈ tables_1) w hw) ((by decide +kernel : ∀ w ∈ u_ws "RasterForge" T_RF 7, mj_gd w = true) w hw), by decide +kernel, by decide +kernel⟩
theorem ok_By : mj_ok 1 "RasterForge$Bytes" T_By 3 ty_By := ⟨rfl, fun w hw => mj_t1 ((by decide +kernel : ∀ w ∈ u_ws "RasterForge$Bytes" T_By 3, w ∈ tables_1) w hw) ((by decide +kernel : ∀ w ∈ u_ws "RasterForge$Bytes" T_By 3, mj_gd w = true) w hw), by decide +kernel, by decide +kernel⟩
theorem ok_Co : mj_ok 2 "RasterForge$Coder" T_Co 4 ty_Co := ⟨rfl, fun w hw => mj_t1 ((by decide +kernel : ∀ w ∈ u_ws "RasterForge$Coder" T_Co 4, w ∈ tables_1) w hw) ((by decide +kernel : ∀ w ∈ u_ws "RasterForge$Coder" T_Co 4, mj_gd w = true) w hw), by decide +kernel, by decide +kernel⟩
theorem ok_Pa : mj_ok 3 "RasterForge$Packer" T_Pa 1 ty_Pa := ⟨rfl, fun w hw => mj_t1 ((by decide +kernel : ∀ w ∈ u_ws "RasterForge$Packer" T_Pa 1, w ∈ tables_1) w hw) ((by decide +kernel : ∀ w ∈ u_ws "RasterForge$Packer" T_Pa 1, mj_gd w = true) w hw), by decide +kernel, by decide +kernel⟩
theorem ok_Pi : mj_ok 4 "RasterForge$Picture" T_Pi 7 ty_Pi := ⟨rfl, fun w hw => mj_t1 ((by decide +kernel : ∀ w ∈ u_ws "RasterForge$Picture" T_Pi 7, w ∈ tables_1) w hw) ((by decide +kernel : ∀ w ∈ u_ws "RasterForge$Picture" T_Pi 7, mj_gd w = true) w hw), by decide +kernel, by decide +kernel⟩
theorem ok_Re : mj_ok 5 "RasterForge$Reader" T_Re 5 ty_Re := ⟨rfl, fun w hw => mj_t1 ((by decide +kernel : ∀ w ∈ u_ws "RasterForge$Reader" T_Re 5, w ∈ tables_1) w hw) ((by decide +kernel : ∀ w ∈ u_ws "RasterForge$Reader" T_Re 5, mj_gd w = true) w hw), by decide +kernel, by decide +kernel⟩
theorem ok_Wv : mj_ok 6 "RasterForge$Wavelet" T_Wv 1 ty_Wv := ⟨rfl, fun w hw => mj_t1 ((by decide +kernel : ∀ w ∈ u_ws "RasterForge$Wavelet" T_Wv 1, w ∈ tables_1) w hw) ((by decide +kernel : ∀ w ∈ u_ws "RasterForge$Wavelet" T_Wv 1, mj_gd w = true) w hw), by decide +kernel, by decide +kernel⟩
theorem ok_Wr : mj_ok 7 "RasterForge$Writer" T_Wr 0 ty_Wr := ⟨rfl, fun w hw => mj_t1 ((by decide +kernel : ∀ w ∈ u_ws "RasterForge$Writer" T_Wr 0, w ∈ tables_1) w hw) ((by decide +kernel : ∀ w ∈ u_ws "RasterForge$Writer" T_Wr 0, mj_gd w = true) w hw), by decide +kernel, by decide +kernel⟩
theorem ok_Mo : mj_ok 8 "RasterForgeModel" T_Mo 27 ty_Mo := ⟨rfl, fun w hw => mj_t1 ((by decide +kernel : ∀ w ∈ u_ws "RasterForgeModel" T_Mo 27, w ∈ tables_1) w hw) ((by decide +kernel : ∀ w ∈ u_ws "RasterForgeModel" T_Mo 27, mj_gd w = true) w hw), by decide +kernel, by decide +kernel⟩
theorem cw_RF_init : mj_cw M_RF_init 0 := ⟨rfl, cd_RF_init, in_RF, by decide +kernel⟩
theorem cw_By_init : mj_cw M_By_init 1 := ⟨rfl, cd_By_init, in_By, by decide +kernel⟩
theorem cw_Co_init : mj_cw M_Co_init 0 := ⟨rfl, cd_Co_init, in_Co, by decide +kernel⟩
theorem cw_Pa_init : mj_cw M_Pa_init 0 := ⟨rfl, cd_Pa_init, in_Pa, by decide +kernel⟩
theorem cw_Wv_init : mj_cw M_Wv_init 0 := ⟨rfl, cd_Wv_init, in_Wv, by decide +kernel⟩
theorem cw_Wr_init : mj_cw M_Wr_init 0 := ⟨rfl, cd_Wr_init, in_Wr, by decide +kernel⟩
theorem cw_Re_init : mj_cw M_Re_init 0 := ⟨rfl, cd_Re_init, in_Re, by decide +kernel⟩
theorem cw_Pi_init : mj_cw M_Pi_init 0 := ⟨rfl, cd_Pi_init, in_Pi, by decide +kernel⟩
theorem cw_Pi_startAnew : mj_cw M_Pi_startAnew 2 := ⟨rfl, cd_Pi_startAnew, in_Pi, by decide +kernel⟩
theorem cw_Ar_fill : mj_cw M_Ar_fill 2 := ⟨rfl, cd_Ar_fill, in_Ar, by decide +kernel⟩
theorem cw_Pi_addChannel : mj_cw M_Pi_addChannel 3 := ⟨rfl, cd_Pi_addChannel, in_Pi, by decide +kernel⟩
theorem cw_RF_where : mj_cw M_RF_where 0 := ⟨rfl, cd_RF_where, in_RF, by decide +kernel⟩
theorem cw_RF_begin : mj_cw M_RF_begin 2 := ⟨rfl, cd_RF_begin, in_RF, by decide +kernel⟩
theorem cw_RF_channel : mj_cw M_RF_channel 3 := ⟨rfl, cd_RF_channel, in_RF, by decide +kernel⟩
theorem cw_Pi_leastLetter : mj_cw M_Pi_leastLetter 0 := ⟨rfl, cd_Pi_leastLetter, in_Pi, by decide +kernel⟩
theorem cw_RF_set : mj_cw M_RF_set 4 := ⟨rfl, cd_RF_set, in_RF, by decide +kernel⟩
theorem cw_RF_isValue : mj_cw M_RF_isValue 1 := ⟨rfl, cd_RF_isValue, in_RF, by decide +kernel⟩
theorem cw_Pi_hasSample : mj_cw M_Pi_hasSample 3 := ⟨rfl, cd_Pi_hasSample, in_Pi, by decide +kernel⟩
theorem cw_Pi_isOnStep : mj_cw M_Pi_isOnStep 2 := ⟨rfl, cd_Pi_isOnStep, in_Pi, by decide +kernel⟩
theorem cw_Sa_ofValue : mj_cw M_Sa_ofValue 2 := ⟨rfl, cd_Sa_ofValue, in_Sa, by decide +kernel⟩
theorem cw_Sa_ofHalf : mj_cw M_Sa_ofHalf 1 := ⟨rfl, cd_Sa_ofHalf, in_Sa, by decide +kernel⟩
theorem cw_Sa_nearest : mj_cw M_Sa_nearest 4 := ⟨rfl, cd_Sa_nearest, in_Sa, by decide +kernel⟩
theorem cw_Sa_ofFloat : mj_cw M_Sa_ofFloat 1 := ⟨rfl, cd_Sa_ofFloat, in_Sa, by decide +kernel⟩
theorem cw_Sa_ofWhole : mj_cw M_Sa_ofWhole 1 := ⟨rfl, cd_Sa_ofWhole, in_Sa, by decide +kernel⟩
theorem cw_Ma_min : mj_cw M_Ma_min 2 := ⟨rfl, cd_Ma_min, in_Ma, by decide +kernel⟩
theorem cw_Ma_max : mj_cw M_Ma_max 2 := ⟨rfl, cd_Ma_max, in_Ma, by decide +kernel⟩
theorem cw_Pi_put : mj_cw M_Pi_put 4 := ⟨rfl, cd_Pi_put, in_Pi, by decide +kernel⟩
theorem cw_Pi_told : mj_cw M_Pi_told 3 := ⟨rfl, cd_Pi_told, in_Pi, by decide +kernel⟩
theorem cw_Pi_at : mj_cw M_Pi_at 3 := ⟨rfl, cd_Pi_at, in_Pi, by decide +kernel⟩
theorem cw_Sa_told : mj_cw M_Sa_told 2 := ⟨rfl, cd_Sa_told, in_Sa, by decide +kernel⟩
theorem cw_Sa_toldParts : mj_cw M_Sa_toldParts 5 := ⟨rfl, cd_Sa_toldParts, in_Sa, by decide +kernel⟩
theorem cw_RF_get : mj_cw M_RF_get 3 := ⟨rfl, cd_RF_get, in_RF, by decide +kernel⟩
theorem cw_RF_bits : mj_cw M_RF_bits 3 := ⟨rfl, cd_RF_bits, in_RF, by decide +kernel⟩
theorem cw_RF_encode : mj_cw M_RF_encode 1 := ⟨rfl, cd_RF_encode, in_RF, by decide +kernel⟩
theorem cw_Wr_write : mj_cw M_Wr_write 4 := ⟨rfl, cd_Wr_write, in_Wr, by decide +kernel⟩
theorem cw_By_clear : mj_cw M_By_clear 0 := ⟨rfl, cd_By_clear, in_By, by decide +kernel⟩
theorem cw_Wr_writeHead : mj_cw M_Wr_writeHead 3 := ⟨rfl, cd_Wr_writeHead, in_Wr, by decide +kernel⟩
theorem cw_By_add : mj_cw M_By_add 1 := ⟨rfl, cd_By_add, in_By, by decide +kernel⟩
theorem cw_Pi_chunks : mj_cw M_Pi_chunks 1 := ⟨rfl, cd_Pi_chunks, in_Pi, by decide +kernel⟩
theorem cw_RF_linesOfChunk : mj_cw M_RF_linesOfChunk 1 := ⟨rfl, cd_RF_linesOfChunk, in_RF, by decide +kernel⟩
theorem cw_By_addNumber : mj_cw M_By_addNumber 2 := ⟨rfl, cd_By_addNumber, in_By, by decide +kernel⟩
theorem cw_By_change : mj_cw M_By_change 2 := ⟨rfl, cd_By_change, in_By, by decide +kernel⟩
theorem cw_Co_make : mj_cw M_Co_make 3 := ⟨rfl, cd_Co_make, in_Co, by decide +kernel⟩
theorem cw_Co_putTables : mj_cw M_Co_putTables 2 := ⟨rfl, cd_Co_putTables, in_Co, by decide +kernel⟩
theorem cw_Co_putTable : mj_cw M_Co_putTable 4 := ⟨rfl, cd_Co_putTable, in_Co, by decide +kernel⟩
theorem cw_Pi_columns : mj_cw M_Pi_columns 1 := ⟨rfl, cd_Pi_columns, in_Pi, by decide +kernel⟩
theorem cw_Pi_onStep : mj_cw M_Pi_onStep 2 := ⟨rfl, cd_Pi_onStep, in_Pi, by decide +kernel⟩
theorem cw_Pi_endOfChunk : mj_cw M_Pi_endOfChunk 2 := ⟨rfl, cd_Pi_endOfChunk, in_Pi, by decide +kernel⟩
theorem cw_Wv_put : mj_cw M_Wv_put 3 := ⟨rfl, cd_Wv_put, in_Wv, by decide +kernel⟩
theorem cw_Wv_forward : mj_cw M_Wv_forward 2 := ⟨rfl, cd_Wv_forward, in_Wv, by decide +kernel⟩
theorem cw_Wv_mix : mj_cw M_Wv_mix 2 := ⟨rfl, cd_Wv_mix, in_Wv, by decide +kernel⟩
theorem cw_Wv_at : mj_cw M_Wv_at 2 := ⟨rfl, cd_Wv_at, in_Wv, by decide +kernel⟩
theorem cw_Co_putLines : mj_cw M_Co_putLines 4 := ⟨rfl, cd_Co_putLines, in_Co, by decide +kernel⟩
theorem cw_Co_putLine : mj_cw M_Co_putLine 5 := ⟨rfl, cd_Co_putLine, in_Co, by decide +kernel⟩
theorem cw_RF_bytesOfSample : mj_cw M_RF_bytesOfSample 2 := ⟨rfl, cd_RF_bytesOfSample, in_RF, by decide +kernel⟩
theorem cw_Sa_shorten : mj_cw M_Sa_shorten 1 := ⟨rfl, cd_Sa_shorten, in_Sa, by decide +kernel⟩
theorem cw_Sa_isNumber : mj_cw M_Sa_isNumber 2 := ⟨rfl, cd_Sa_isNumber, in_Sa, by decide +kernel⟩
theorem cw_Pa_pack : mj_cw M_Pa_pack 2 := ⟨rfl, cd_Pa_pack, in_Pa, by decide +kernel⟩
theorem cw_Pa_sort : mj_cw M_Pa_sort 1 := ⟨rfl, cd_Pa_sort, in_Pa, by decide +kernel⟩
theorem cw_By_at : mj_cw M_By_at 1 := ⟨rfl, cd_By_at, in_By, by decide +kernel⟩
theorem cw_Pa_alikeFrom : mj_cw M_Pa_alikeFrom 1 := ⟨rfl, cd_Pa_alikeFrom, in_Pa, by decide +kernel⟩
theorem cw_Pa_endOfUnlike : mj_cw M_Pa_endOfUnlike 1 := ⟨rfl, cd_Pa_endOfUnlike, in_Pa, by decide +kernel⟩
theorem cw_By_addPart : mj_cw M_By_addPart 3 := ⟨rfl, cd_By_addPart, in_By, by decide +kernel⟩
theorem cw_RF_decode : mj_cw M_RF_decode 0 := ⟨rfl, cd_RF_decode, in_RF, by decide +kernel⟩
theorem cw_Re_read : mj_cw M_Re_read 3 := ⟨rfl, cd_Re_read, in_Re, by decide +kernel⟩
theorem cw_Re_readHead : mj_cw M_Re_readHead 1 := ⟨rfl, cd_Re_readHead, in_Re, by decide +kernel⟩
theorem cw_Re_nextIs : mj_cw M_Re_nextIs 2 := ⟨rfl, cd_Re_nextIs, in_Re, by decide +kernel⟩
theorem cw_Re_lacks : mj_cw M_Re_lacks 1 := ⟨rfl, cd_Re_lacks, in_Re, by decide +kernel⟩
theorem cw_Re_failsAt : mj_cw M_Re_failsAt 1 := ⟨rfl, cd_Re_failsAt, in_Re, by decide +kernel⟩
theorem cw_Re_nextIsKnown : mj_cw M_Re_nextIsKnown 2 := ⟨rfl, cd_Re_nextIsKnown, in_Re, by decide +kernel⟩
theorem cw_Re_readChannels : mj_cw M_Re_readChannels 1 := ⟨rfl, cd_Re_readChannels, in_Re, by decide +kernel⟩
theorem cw_Re_readTable : mj_cw M_Re_readTable 1 := ⟨rfl, cd_Re_readTable, in_Re, by decide +kernel⟩
theorem cw_By_twoAt : mj_cw M_By_twoAt 1 := ⟨rfl, cd_By_twoAt, in_By, by decide +kernel⟩
theorem cw_Re_behindChunk : mj_cw M_Re_behindChunk 1 := ⟨rfl, cd_Re_behindChunk, in_Re, by decide +kernel⟩
theorem cw_Re_readChunk : mj_cw M_Re_readChunk 3 := ⟨rfl, cd_Re_readChunk, in_Re, by decide +kernel⟩
theorem cw_Pi_rawSize : mj_cw M_Pi_rawSize 2 := ⟨rfl, cd_Pi_rawSize, in_Pi, by decide +kernel⟩
theorem cw_Co_makeReady : mj_cw M_Co_makeReady 4 := ⟨rfl, cd_Co_makeReady, in_Co, by decide +kernel⟩
theorem cw_Pa_unpack : mj_cw M_Pa_unpack 5 := ⟨rfl, cd_Pa_unpack, in_Pa, by decide +kernel⟩
theorem cw_Pa_unsort : mj_cw M_Pa_unsort 1 := ⟨rfl, cd_Pa_unsort, in_Pa, by decide +kernel⟩
theorem cw_Co_takeReady : mj_cw M_Co_takeReady 4 := ⟨rfl, cd_Co_takeReady, in_Co, by decide +kernel⟩
theorem cw_Co_takeTables : mj_cw M_Co_takeTables 2 := ⟨rfl, cd_Co_takeTables, in_Co, by decide +kernel⟩
theorem cw_Co_takeTable : mj_cw M_Co_takeTable 4 := ⟨rfl, cd_Co_takeTable, in_Co, by decide +kernel⟩
theorem cw_By_nextNumber : mj_cw M_By_nextNumber 1 := ⟨rfl, cd_By_nextNumber, in_By, by decide +kernel⟩
theorem cw_Wv_backward : mj_cw M_Wv_backward 2 := ⟨rfl, cd_Wv_backward, in_Wv, by decide +kernel⟩
theorem cw_Wv_unmix : mj_cw M_Wv_unmix 2 := ⟨rfl, cd_Wv_unmix, in_Wv, by decide +kernel⟩
theorem cw_Co_takeLines : mj_cw M_Co_takeLines 4 := ⟨rfl, cd_Co_takeLines, in_Co, by decide +kernel⟩
theorem cw_Co_takeLine : mj_cw M_Co_takeLine 5 := ⟨rfl, cd_Co_takeLine, in_Co, by decide +kernel⟩
theorem cw_Pi_holdsNumbers : mj_cw M_Pi_holdsNumbers 2 := ⟨rfl, cd_Pi_holdsNumbers, in_Pi, by decide +kernel⟩
theorem cw_RF_file : mj_cw M_RF_file 1 := ⟨rfl, cd_RF_file, in_RF, by decide +kernel⟩
theorem cw_RF_patch : mj_cw M_RF_patch 2 := ⟨rfl, cd_RF_patch, in_RF, by decide +kernel⟩
theorem cw_RF_cut : mj_cw M_RF_cut 1 := ⟨rfl, cd_RF_cut, in_RF, by decide +kernel⟩
theorem cw_RF_count : mj_cw M_RF_count 1 := ⟨rfl, cd_RF_count, in_RF, by decide +kernel⟩
theorem cw_Pi_fact : mj_cw M_Pi_fact 2 := ⟨rfl, cd_Pi_fact, in_Pi, by decide +kernel⟩
theorem cw_RF_spread : mj_cw M_RF_spread 2 := ⟨rfl, cd_RF_spread, in_RF, by decide +kernel⟩
theorem cw_Pi_greatestDistance : mj_cw M_Pi_greatestDistance 2 := ⟨rfl, cd_Pi_greatestDistance, in_Pi, by decide +kernel⟩
theorem cw_Mo_init : mj_cw M_Mo_init 0 := ⟨rfl, cd_Mo_init, in_Mo, by decide +kernel⟩
theorem cw_Mo_thrown : mj_cw M_Mo_thrown 0 := ⟨rfl, cd_Mo_thrown, in_Mo, by decide +kernel⟩
theorem cw_Mo_begin : mj_cw M_Mo_begin 2 := ⟨rfl, cd_Mo_begin, in_Mo, by decide +kernel⟩
theorem cw_Mo_in : mj_cw M_Mo_in 3 := ⟨rfl, cd_Mo_in, in_Mo, by decide +kernel⟩
theorem cw_Mo_fail : mj_cw M_Mo_fail 1 := ⟨rfl, cd_Mo_fail, in_Mo, by decide +kernel⟩
theorem cw_Mo_channel : mj_cw M_Mo_channel 3 := ⟨rfl, cd_Mo_channel, in_Mo, by decide +kernel⟩
theorem cw_Mo_set : mj_cw M_Mo_set 4 := ⟨rfl, cd_Mo_set, in_Mo, by decide +kernel⟩
theorem cw_Mo_has : mj_cw M_Mo_has 3 := ⟨rfl, cd_Mo_has, in_Mo, by decide +kernel⟩
theorem cw_Mo_bitsFor : mj_cw M_Mo_bitsFor 2 := ⟨rfl, cd_Mo_bitsFor, in_Mo, by decide +kernel⟩
theorem cw_Mo_bitsOf : mj_cw M_Mo_bitsOf 3 := ⟨rfl, cd_Mo_bitsOf, in_Mo, by decide +kernel⟩
theorem cw_Mo_nearest : mj_cw M_Mo_nearest 1 := ⟨rfl, cd_Mo_nearest, in_Mo, by decide +kernel⟩
theorem cw_Mo_told : mj_cw M_Mo_told 2 := ⟨rfl, cd_Mo_told, in_Mo, by decide +kernel⟩
theorem cw_Mo_valueOf : mj_cw M_Mo_valueOf 3 := ⟨rfl, cd_Mo_valueOf, in_Mo, by decide +kernel⟩
theorem cw_Mo_get : mj_cw M_Mo_get 3 := ⟨rfl, cd_Mo_get, in_Mo, by decide +kernel⟩
theorem cw_Mo_bits : mj_cw M_Mo_bits 3 := ⟨rfl, cd_Mo_bits, in_Mo, by decide +kernel⟩
theorem cw_Mo_spread : mj_cw M_Mo_spread 2 := ⟨rfl, cd_Mo_spread, in_Mo, by decide +kernel⟩
theorem cw_Mo_encode : mj_cw M_Mo_encode 1 := ⟨rfl, cd_Mo_encode, in_Mo, by decide +kernel⟩
theorem cw_Mo_write : mj_cw M_Mo_write 1 := ⟨rfl, cd_Mo_write, in_Mo, by decide +kernel⟩
theorem cw_Mo_linesOf : mj_cw M_Mo_linesOf 1 := ⟨rfl, cd_Mo_linesOf, in_Mo, by decide +kernel⟩
theorem cw_Mo_least : mj_cw M_Mo_least 2 := ⟨rfl, cd_Mo_least, in_Mo, by decide +kernel⟩
theorem cw_Mo_chunk : mj_cw M_Mo_chunk 3 := ⟨rfl, cd_Mo_chunk, in_Mo, by decide +kernel⟩
theorem cw_Mo_gather : mj_cw M_Mo_gather 3 := ⟨rfl, cd_Mo_gather, in_Mo, by decide +kernel⟩
theorem cw_Mo_cutBits : mj_cw M_Mo_cutBits 1 := ⟨rfl, cd_Mo_cutBits, in_Mo, by decide +kernel⟩
theorem cw_Mo_putMany : mj_cw M_Mo_putMany 2 := ⟨rfl, cd_Mo_putMany, in_Mo, by decide +kernel⟩
theorem cw_Mo_put : mj_cw M_Mo_put 1 := ⟨rfl, cd_Mo_put, in_Mo, by decide +kernel⟩
theorem cw_Mo_waves : mj_cw M_Mo_waves 2 := ⟨rfl, cd_Mo_waves, in_Mo, by decide +kernel⟩
theorem cw_Mo_across : mj_cw M_Mo_across 2 := ⟨rfl, cd_Mo_across, in_Mo, by decide +kernel⟩
theorem cw_Mo_down : mj_cw M_Mo_down 3 := ⟨rfl, cd_Mo_down, in_Mo, by decide +kernel⟩
theorem cw_Mo_wave : mj_cw M_Mo_wave 3 := ⟨rfl, cd_Mo_wave, in_Mo, by decide +kernel⟩
theorem cw_Mo_into : mj_cw M_Mo_into 3 := ⟨rfl, cd_Mo_into, in_Mo, by decide +kernel⟩
theorem cw_Mo_pack : mj_cw M_Mo_pack 0 := ⟨rfl, cd_Mo_pack, in_Mo, by decide +kernel⟩
theorem cw_Mo_alike : mj_cw M_Mo_alike 1 := ⟨rfl, cd_Mo_alike, in_Mo, by decide +kernel⟩
theorem cw_Mo_prepared : mj_cw M_Mo_prepared 1 := ⟨rfl, cd_Mo_prepared, in_Mo, by decide +kernel⟩
theorem cw_Mo_reordered : mj_cw M_Mo_reordered 1 := ⟨rfl, cd_Mo_reordered, in_Mo, by decide +kernel⟩
theorem cw_Mo_decode : mj_cw M_Mo_decode 0 := ⟨rfl, cd_Mo_decode, in_Mo, by decide +kernel⟩
theorem cw_Mo_readHead : mj_cw M_Mo_readHead 0 := ⟨rfl, cd_Mo_readHead, in_Mo, by decide +kernel⟩
theorem cw_Mo_next : mj_cw M_Mo_next 3 := ⟨rfl, cd_Mo_next, in_Mo, by decide +kernel⟩
theorem cw_Mo_wrong : mj_cw M_Mo_wrong 2 := ⟨rfl, cd_Mo_wrong, in_Mo, by decide +kernel⟩
theorem cw_Mo_readOffsets : mj_cw M_Mo_readOffsets 1 := ⟨rfl, cd_Mo_readOffsets, in_Mo, by decide +kernel⟩
theorem cw_Mo_two : mj_cw M_Mo_two 0 := ⟨rfl, cd_Mo_two, in_Mo, by decide +kernel⟩
theorem cw_Mo_readChunk : mj_cw M_Mo_readChunk 2 := ⟨rfl, cd_Mo_readChunk, in_Mo, by decide +kernel⟩
theorem cw_Mo_wanted : mj_cw M_Mo_wanted 2 := ⟨rfl, cd_Mo_wanted, in_Mo, by decide +kernel⟩
theorem cw_Mo_scatter : mj_cw M_Mo_scatter 3 := ⟨rfl, cd_Mo_scatter, in_Mo, by decide +kernel⟩
theorem cw_Mo_take : mj_cw M_Mo_take 1 := ⟨rfl, cd_Mo_take, in_Mo, by decide +kernel⟩
theorem cw_Mo_unpack : mj_cw M_Mo_unpack 2 := ⟨rfl, cd_Mo_unpack, in_Mo, by decide +kernel⟩
theorem cw_Mo_unwaves : mj_cw M_Mo_unwaves 2 := ⟨rfl, cd_Mo_unwaves, in_Mo, by decide +kernel⟩
theorem cw_Mo_unwave : mj_cw M_Mo_unwave 3 := ⟨rfl, cd_Mo_unwave, in_Mo, by decide +kernel⟩
theorem cw_Mo_outOf : mj_cw M_Mo_outOf 3 := ⟨rfl, cd_Mo_outOf, in_Mo, by decide +kernel⟩
theorem cw_Mo_isSound : mj_cw M_Mo_isSound 2 := ⟨rfl, cd_Mo_isSound, in_Mo, by decide +kernel⟩
theorem cw_Mo_isNone : mj_cw M_Mo_isNone 2 := ⟨rfl, cd_Mo_isNone, in_Mo, by decide +kernel⟩
theorem cw_Mo_where : mj_cw M_Mo_where 0 := ⟨rfl, cd_Mo_where, in_Mo, by decide +kernel⟩
theorem cw_Mo_file : mj_cw M_Mo_file 1 := ⟨rfl, cd_Mo_file, in_Mo, by decide +kernel⟩
theorem cw_Mo_patch : mj_cw M_Mo_patch 2 := ⟨rfl, cd_Mo_patch, in_Mo, by decide +kernel⟩
theorem cw_Mo_cut : mj_cw M_Mo_cut 1 := ⟨rfl, cd_Mo_cut, in_Mo, by decide +kernel⟩
theorem cw_Mo_count : mj_cw M_Mo_count 1 := ⟨rfl, cd_Mo_count, in_Mo, by decide +kernel⟩
