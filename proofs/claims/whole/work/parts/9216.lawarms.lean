theorem mj_more {M : mj_M} {Q : mj_E → mj_H → Prop} {d : mj_D} {kc ks pc a b : Nat} {L : List (Option Value)} {S : List Value} {h : mj_H} (k : mj_W M Q d kc ks pc L S h) : mj_W M Q d (kc + a) (ks + b) pc L S h := by
  intro p l e R s m args below meth c G o X H locs cells slots hS hk1 hk2 ls hl
  exact k p l e R s m args below meth c G o X H locs cells slots hS (by omega) (by omega) ls hl
theorem lg_cmp_rf (x : Int64) : lg_cmp x x = 0 := by
  unfold lg_cmp
  rw [if_neg (show ¬ x > x from Int64.lt_irrefl), if_pos rfl]
abbrev la_L (i : Int32) : List (Option Value) := [some (.retAddr 1), some (.ref 0), some (.ref 27), some (.ref 40), some (.ref 41), some (.int i), none, none, none]
theorem cwH_La_begin : mj_cwH M_La_begin 4 := ⟨⟨_, _, rfl⟩, cd_La_begin, in_La, by decide, by decide +kernel⟩
theorem cwH_La_channel : mj_cwH M_La_channel 5 := ⟨⟨_, _, rfl⟩, cd_La_channel, in_La, by decide, by decide +kernel⟩
theorem cwH_La_set : mj_cwH M_La_set 6 := ⟨⟨_, _, rfl⟩, cd_La_set, in_La, by decide, by decide +kernel⟩
theorem cwH_La_get : mj_cwH M_La_get 5 := ⟨⟨_, _, rfl⟩, cd_La_get, in_La, by decide, by decide +kernel⟩
theorem cwH_La_bits : mj_cwH M_La_bits 5 := ⟨⟨_, _, rfl⟩, cd_La_bits, in_La, by decide, by decide +kernel⟩
theorem cwH_La_encode : mj_cwH M_La_encode 3 := ⟨⟨_, _, rfl⟩, cd_La_encode, in_La, by decide, by decide +kernel⟩
theorem cwH_La_decode : mj_cwH M_La_decode 2 := ⟨⟨_, _, rfl⟩, cd_La_decode, in_La, by decide, by decide +kernel⟩
theorem cwH_La_file : mj_cwH M_La_file 3 := ⟨⟨_, _, rfl⟩, cd_La_file, in_La, by decide, by decide +kernel⟩
theorem cwH_La_patch : mj_cwH M_La_patch 4 := ⟨⟨_, _, rfl⟩, cd_La_patch, in_La, by decide, by decide +kernel⟩
theorem cwH_La_cut : mj_cwH M_La_cut 3 := ⟨⟨_, _, rfl⟩, cd_La_cut, in_La, by decide, by decide +kernel⟩
theorem cwH_La_count : mj_cwH M_La_count 3 := ⟨⟨_, _, rfl⟩, cd_La_count, in_La, by decide, by decide +kernel⟩
theorem cwH_La_spread : mj_cwH M_La_spread 4 := ⟨⟨_, _, rfl⟩, cd_La_spread, in_La, by decide, by decide +kernel⟩
set_option maxRecDepth 100000 in
set_option maxHeartbeats 4000000 in
theorem lm_begin {N : Nat} {xs : Nat → Int32} {Q : mj_E → mj_H → Prop} {n ks : Nat} {i : Int32} {H : mj_H} (q1 : vp_in (i + 1) N) (q2 : vp_in (i + 2) N) (q3 : vp_in (i + 3) N) (q4 : vp_in (i + 4) N) (I : LI H) (kk : ∀ H2, LI H2 → mj_W M_La_law Q (11, 450, some (N, xs)) n ks 1012 (la_L i) [] H2) : mj_W M_La_law Q (11, 450, some (N, xs)) (n + 1) (ks + 6) 112 (la_L i) [] H := by
  obtain ⟨k, x, F, H1, H2, hA, ⟨fs1, h27⟩, hM, ⟨fs2, h27b⟩, hT, hF, hv, I2⟩ := ar_begin (H := H) I (xs (i + 1).toNatClampNeg) (xs (i + 2).toNatClampNeg)
  refine mj_aload_n d_La_law_112 rfl ?_
  refine mj_aload_nX d_La_law_113 rfl ?_
  refine mj_iload d_La_law_114 rfl ?_
  refine mj_iconst (v := 1) d_La_law_116 (by decide) ?_
  refine mj_iadd d_La_law_117 ?_
  refine mj_xald (mj_hxS rfl) d_La_law_118 q1 ?_
  refine mj_aload_nX d_La_law_119 rfl ?_
  refine mj_iload d_La_law_120 rfl ?_
  refine mj_iconst (v := 2) d_La_law_122 (by decide) ?_
  refine mj_iadd d_La_law_123 ?_
  refine mj_xald (mj_hxS rfl) d_La_law_124 q2 ?_
  refine mj_aload_n d_La_law_125 rfl ?_
  refine mj_cSH (kc := n) (ks := ks) (S := []) (S1 := [.int k]) hA d_La_law_126 cwH_La_begin ml_La_64 st_La_begin ⟨Nat.le_of_ble_eq_true rfl, Nat.le_of_ble_eq_true rfl⟩ rfl (Nat.le_of_ble_eq_true rfl) rfl rfl ?_
  refine mj_istore d_La_law_129 (by decide) rfl rfl ?_
  refine mj_aload_n d_La_law_131 rfl ?_
  refine mj_aload_nX d_La_law_132 rfl ?_
  refine mj_iload d_La_law_133 rfl ?_
  refine mj_iconst (v := 1) d_La_law_135 (by decide) ?_
  refine mj_iadd d_La_law_136 ?_
  refine mj_xald (mj_hxS rfl) d_La_law_137 q1 ?_
  refine mj_aload_nX d_La_law_138 rfl ?_
  refine mj_iload d_La_law_139 rfl ?_
  refine mj_iconst (v := 2) d_La_law_141 (by decide) ?_
  refine mj_iadd d_La_law_142 ?_
  refine mj_xald (mj_hxS rfl) d_La_law_143 q2 ?_
  refine mj_cV (kc := n) (ks := ks) (S := []) (S1 := [.int x]) hM d_La_law_144 cw_Mo_begin ml_La_69 im_Mo_begin se_Mo_begin rfl h27 ⟨Nat.le_of_ble_eq_true rfl, Nat.le_of_ble_eq_true rfl⟩ rfl (Nat.le_of_ble_eq_true rfl) rfl rfl ?_
  refine mj_istore d_La_law_147 (by decide) rfl rfl ?_
  refine mj_aload_n d_La_law_149 rfl ?_
  refine mj_cV (kc := n) (ks := ks) (As := []) (S := []) (S1 := [.int k]) hT d_La_law_150 cw_Mo_thrown ml_La_70 im_Mo_thrown se_Mo_thrown rfl h27b ⟨Nat.le_of_ble_eq_true rfl, Nat.le_of_ble_eq_true rfl⟩ rfl (Nat.le_of_ble_eq_true rfl) rfl rfl ?_
  refine mj_iload d_La_law_153 rfl ?_
  refine mj_icmp_eq (tgt := 160) d_La_law_155 (by decide) (fun _ => ?_) (fun e => absurd rfl e)
  have fin : mj_W M_La_law Q (11, 450, some (N, xs)) n ks 177 [some (.retAddr 1), some (.ref 0), some (.ref 27), some (.ref 40), some (.ref 41), some (.int i), some (.int k), some (.int x), none] [] H2 := by
    refine mj_goto (tgt := 1012) d_La_law_177 (by decide) ?_
    exact mj_fg 6 rfl (mj_fg 7 rfl (kk H2 I2))
  refine mj_iload d_La_law_160 rfl ?_
  refine mj_if_ne (tgt := 177) d_La_law_162 (by decide) (fun _ => fin) (fun e0 => ?_)
  have hv0 := hv e0
  refine mj_aload_n d_La_law_165 rfl ?_
  refine mj_iconst (v := 0) d_La_law_166 (by decide) ?_
  refine mj_lald d_La_law_167 hF vp_in01 ?_
  refine mj_iload d_La_law_168 rfl ?_
  refine mj_i2l d_La_law_170 rfl ?_
  refine mj_lcmp d_La_law_171 ?_
  exact mj_if_eq (tgt := 177) d_La_law_172 (by decide) (fun _ => fin) (fun e => absurd (show lg_cmp (F 0) x.toInt64 = 0 by rw [hv0]; exact lg_cmp_rf _) e)
set_option maxRecDepth 100000 in
set_option maxHeartbeats 4000000 in
theorem lm_channel {N : Nat} {xs : Nat → Int32} {Q : mj_E → mj_H → Prop} {n ks : Nat} {i : Int32} {H : mj_H} (q1 : vp_in (i + 1) N) (q2 : vp_in (i + 2) N) (q3 : vp_in (i + 3) N) (q4 : vp_in (i + 4) N) (I : LI H) (kk : ∀ H2, LI H2 → mj_W M_La_law Q (11, 450, some (N, xs)) n ks 1012 (la_L i) [] H2) : mj_W M_La_law Q (11, 450, some (N, xs)) (n + 1) (ks + 6) 180 (la_L i) [] H := by
  obtain ⟨k, x, F, H1, H2, hA, ⟨fs1, h27⟩, hM, ⟨fs2, h27b⟩, hT, hF, hv, I2⟩ := ar_channel (H := H) I (xs (i + 1).toNatClampNeg) (xs (i + 2).toNatClampNeg) (xs (i + 3).toNatClampNeg)
  refine mj_aload_n d_La_law_180 rfl ?_
  refine mj_aload_nX d_La_law_181 rfl ?_
  refine mj_iload d_La_law_182 rfl ?_
  refine mj_iconst (v := 1) d_La_law_184 (by decide) ?_
  refine mj_iadd d_La_law_185 ?_
  refine mj_xald (mj_hxS rfl) d_La_law_186 q1 ?_
  refine mj_aload_nX d_La_law_187 rfl ?_
  refine mj_iload d_La_law_188 rfl ?_
  refine mj_iconst (v := 2) d_La_law_190 (by decide) ?_
  refine mj_iadd d_La_law_191 ?_
  refine mj_xald (mj_hxS rfl) d_La_law_192 q2 ?_
  refine mj_aload_nX d_La_law_193 rfl ?_
  refine mj_iload d_La_law_194 rfl ?_
  refine mj_iconst (v := 3) d_La_law_196 (by decide) ?_
  refine mj_iadd d_La_law_197 ?_
  refine mj_xald (mj_hxS rfl) d_La_law_198 q3 ?_
  refine mj_aload_n d_La_law_199 rfl ?_
  refine mj_cSH (kc := n) (ks := ks) (S := []) (S1 := [.int k]) hA d_La_law_200 cwH_La_channel ml_La_73 st_La_channel ⟨Nat.le_of_ble_eq_true rfl, Nat.le_of_ble_eq_true rfl⟩ rfl (Nat.le_of_ble_eq_true rfl) rfl rfl ?_
  refine mj_istore d_La_law_203 (by decide) rfl rfl ?_
  refine mj_aload_n d_La_law_205 rfl ?_
  refine mj_aload_nX d_La_law_206 rfl ?_
  refine mj_iload d_La_law_207 rfl ?_
  refine mj_iconst (v := 1) d_La_law_209 (by decide) ?_
  refine mj_iadd d_La_law_210 ?_
  refine mj_xald (mj_hxS rfl) d_La_law_211 q1 ?_
  refine mj_aload_nX d_La_law_212 rfl ?_
  refine mj_iload d_La_law_213 rfl ?_
  refine mj_iconst (v := 2) d_La_law_215 (by decide) ?_
  refine mj_iadd d_La_law_216 ?_
  refine mj_xald (mj_hxS rfl) d_La_law_217 q2 ?_
  refine mj_aload_nX d_La_law_218 rfl ?_
  refine mj_iload d_La_law_219 rfl ?_
  refine mj_iconst (v := 3) d_La_law_221 (by decide) ?_
  refine mj_iadd d_La_law_222 ?_
  refine mj_xald (mj_hxS rfl) d_La_law_223 q3 ?_
  refine mj_cV (kc := n) (ks := ks) (S := []) (S1 := [.int x]) hM d_La_law_224 cw_Mo_channel ml_La_76 im_Mo_channel se_Mo_channel rfl h27 ⟨Nat.le_of_ble_eq_true rfl, Nat.le_of_ble_eq_true rfl⟩ rfl (Nat.le_of_ble_eq_true rfl) rfl rfl ?_
  refine mj_istore d_La_law_227 (by decide) rfl rfl ?_
  refine mj_aload_n d_La_law_229 rfl ?_
  refine mj_cV (kc := n) (ks := ks) (As := []) (S := []) (S1 := [.int k]) hT d_La_law_230 cw_Mo_thrown ml_La_70 im_Mo_thrown se_Mo_thrown rfl h27b ⟨Nat.le_of_ble_eq_true rfl, Nat.le_of_ble_eq_true rfl⟩ rfl (Nat.le_of_ble_eq_true rfl) rfl rfl ?_
  refine mj_iload d_La_law_233 rfl ?_
  refine mj_icmp_eq (tgt := 240) d_La_law_235 (by decide) (fun _ => ?_) (fun e => absurd rfl e)
  have fin : mj_W M_La_law Q (11, 450, some (N, xs)) n ks 257 [some (.retAddr 1), some (.ref 0), some (.ref 27), some (.ref 40), some (.ref 41), some (.int i), some (.int k), some (.int x), none] [] H2 := by
    refine mj_goto (tgt := 1012) d_La_law_257 (by decide) ?_
    exact mj_fg 6 rfl (mj_fg 7 rfl (kk H2 I2))
  refine mj_iload d_La_law_240 rfl ?_
  refine mj_if_ne (tgt := 257) d_La_law_242 (by decide) (fun _ => fin) (fun e0 => ?_)
  have hv0 := hv e0
  refine mj_aload_n d_La_law_245 rfl ?_
  refine mj_iconst (v := 0) d_La_law_246 (by decide) ?_
  refine mj_lald d_La_law_247 hF vp_in01 ?_
  refine mj_iload d_La_law_248 rfl ?_
  refine mj_i2l d_La_law_250 rfl ?_
  refine mj_lcmp d_La_law_251 ?_
  exact mj_if_eq (tgt := 257) d_La_law_252 (by decide) (fun _ => fin) (fun e => absurd (show lg_cmp (F 0) x.toInt64 = 0 by rw [hv0]; exact lg_cmp_rf _) e)
set_option maxRecDepth 100000 in
set_option maxHeartbeats 4000000 in
theorem lm_set {N : Nat} {xs : Nat → Int32} {Q : mj_E → mj_H → Prop} {n ks : Nat} {i : Int32} {H : mj_H} (q1 : vp_in (i + 1) N) (q2 : vp_in (i + 2) N) (q3 : vp_in (i + 3) N) (q4 : vp_in (i + 4) N) (I : LI H) (kk : ∀ H2, LI H2 → mj_W M_La_law Q (11, 450, some (N, xs)) n ks 1012 (la_L i) [] H2) : mj_W M_La_law Q (11, 450, some (N, xs)) (n + 1) (ks + 6) 260 (la_L i) [] H := by
  obtain ⟨k, x, F, H1, H2, hA, ⟨fs1, h27⟩, hM, ⟨fs2, h27b⟩, hT, hF, hv, I2⟩ := ar_set (H := H) I (xs (i + 1).toNatClampNeg) (xs (i + 2).toNatClampNeg) (xs (i + 3).toNatClampNeg) (xs (i + 4).toNatClampNeg)
  refine mj_aload_n d_La_law_260 rfl ?_
  refine mj_aload_nX d_La_law_261 rfl ?_
  refine mj_iload d_La_law_262 rfl ?_
  refine mj_iconst (v := 1) d_La_law_264 (by decide) ?_
  refine mj_iadd d_La_law_265 ?_
  refine mj_xald (mj_hxS rfl) d_La_law_266 q1 ?_
  refine mj_aload_nX d_La_law_267 rfl ?_
  refine mj_iload d_La_law_268 rfl ?_
  refine mj_iconst (v := 2) d_La_law_270 (by decide) ?_
  refine mj_iadd d_La_law_271 ?_
  refine mj_xald (mj_hxS rfl) d_La_law_272 q2 ?_
  refine mj_aload_nX d_La_law_273 rfl ?_
  refine mj_iload d_La_law_274 rfl ?_
  refine mj_iconst (v := 3) d_La_law_276 (by decide) ?_
  refine mj_iadd d_La_law_277 ?_
  refine mj_xald (mj_hxS rfl) d_La_law_278 q3 ?_
  refine mj_aload_nX d_La_law_279 rfl ?_
  refine mj_iload d_La_law_280 rfl ?_
  refine mj_iconst (v := 4) d_La_law_282 (by decide) ?_
  refine mj_iadd d_La_law_283 ?_
  refine mj_xald (mj_hxS rfl) d_La_law_284 q4 ?_
  refine mj_i2d d_La_law_285 ?_
  refine mj_ldc2d d_La_law_286 kd_La_77 ?_
  refine mj_dmul d_La_law_289 (w_vn _) ?_
  refine mj_aload d_La_law_290 rfl ?_
  refine mj_cSH (kc := n) (ks := ks) (S := []) (S1 := [.int k]) hA d_La_law_292 cwH_La_set ml_La_79 st_La_set ⟨Nat.le_of_ble_eq_true rfl, Nat.le_of_ble_eq_true rfl⟩ rfl (Nat.le_of_ble_eq_true rfl) rfl rfl ?_
  refine mj_istore d_La_law_295 (by decide) rfl rfl ?_
  refine mj_aload_n d_La_law_297 rfl ?_
  refine mj_aload_nX d_La_law_298 rfl ?_
  refine mj_iload d_La_law_299 rfl ?_
  refine mj_iconst (v := 1) d_La_law_301 (by decide) ?_
  refine mj_iadd d_La_law_302 ?_
  refine mj_xald (mj_hxS rfl) d_La_law_303 q1 ?_
  refine mj_aload_nX d_La_law_304 rfl ?_
  refine mj_iload d_La_law_305 rfl ?_
  refine mj_iconst (v := 2) d_La_law_307 (by decide) ?_
  refine mj_iadd d_La_law_308 ?_
  refine mj_xald (mj_hxS rfl) d_La_law_309 q2 ?_
  refine mj_aload_nX d_La_law_310 rfl ?_
  refine mj_iload d_La_law_311 rfl ?_
  refine mj_iconst (v := 3) d_La_law_313 (by decide) ?_
  refine mj_iadd d_La_law_314 ?_
  refine mj_xald (mj_hxS rfl) d_La_law_315 q3 ?_
  refine mj_aload_nX d_La_law_316 rfl ?_
  refine mj_iload d_La_law_317 rfl ?_
  refine mj_iconst (v := 4) d_La_law_319 (by decide) ?_
  refine mj_iadd d_La_law_320 ?_
  refine mj_xald (mj_hxS rfl) d_La_law_321 q4 ?_
  refine mj_i2d d_La_law_322 ?_
  refine mj_ldc2d d_La_law_323 kd_La_77 ?_
  refine mj_dmul d_La_law_326 (w_vn _) ?_
  refine mj_cV (kc := n) (ks := ks) (S := []) (S1 := [.double x]) hM d_La_law_327 cw_Mo_set ml_La_82 im_Mo_set se_Mo_set rfl h27 ⟨Nat.le_of_ble_eq_true rfl, Nat.le_of_ble_eq_true rfl⟩ rfl (Nat.le_of_ble_eq_true rfl) rfl rfl ?_
  refine mj_dstore d_La_law_330 (by decide) rfl rfl ?_
  refine mj_aload_n d_La_law_332 rfl ?_
  refine mj_cV (kc := n) (ks := ks) (As := []) (S := []) (S1 := [.int k]) hT d_La_law_333 cw_Mo_thrown ml_La_70 im_Mo_thrown se_Mo_thrown rfl h27b ⟨Nat.le_of_ble_eq_true rfl, Nat.le_of_ble_eq_true rfl⟩ rfl (Nat.le_of_ble_eq_true rfl) rfl rfl ?_
  refine mj_iload d_La_law_336 rfl ?_
  refine mj_icmp_eq (tgt := 343) d_La_law_338 (by decide) (fun _ => ?_) (fun e => absurd rfl e)
  have fin : mj_W M_La_law Q (11, 450, some (N, xs)) n ks 380 [some (.retAddr 1), some (.ref 0), some (.ref 27), some (.ref 40), some (.ref 41), some (.int i), some (.int k), some (.double x), none] [] H2 := by
    refine mj_goto (tgt := 1012) d_La_law_380 (by decide) ?_
    exact mj_fg 6 rfl (mj_fg 7 rfl (kk H2 I2))
  refine mj_iload d_La_law_343 rfl ?_
  refine mj_if_ne (tgt := 380) d_La_law_345 (by decide) (fun _ => fin) (fun e0 => ?_)
  have hv0 := hv e0
  refine mj_aload d_La_law_348 rfl ?_
  refine mj_iconst (v := 0) d_La_law_350 (by decide) ?_
  refine mj_dald d_La_law_351 hF vp_in01 ?_
  refine mj_dload d_La_law_352 rfl ?_
  refine mj_dcmp d_La_law_354 ?_
  refine mj_if_eq (tgt := 380) d_La_law_355 (by decide) (fun _ => fin) (fun e1 => ?_)
  have e2 : ¬ Op.cmpValue (FP.dcmp x x) .l = 0 := fun e => e1 (show Op.cmpValue (FP.dcmp (F 0) x) .l = 0 by rw [hv0]; exact e)
  refine mj_aload d_La_law_358 rfl ?_
  refine mj_iconst (v := 0) d_La_law_360 (by decide) ?_
  refine mj_dald d_La_law_361 hF vp_in01 ?_
  refine mj_aload d_La_law_362 rfl ?_
  refine mj_iconst (v := 0) d_La_law_364 (by decide) ?_
  refine mj_dald d_La_law_365 hF vp_in01 ?_
  refine mj_dcmp d_La_law_366 ?_
  refine mj_if_eq (tgt := 378) d_La_law_367 (by decide) (fun e => absurd (show Op.cmpValue (FP.dcmp x x) .l = 0 by rw [← hv0]; exact e) e2) (fun _ => ?_)
  refine mj_dload d_La_law_370 rfl ?_
  refine mj_dload d_La_law_372 rfl ?_
  refine mj_dcmp d_La_law_374 ?_
  exact mj_if_ne (tgt := 380) d_La_law_375 (by decide) (fun _ => fin) (fun e => absurd e e2)
set_option maxRecDepth 100000 in
set_option maxHeartbeats 4000000 in
theorem lm_get {N : Nat} {xs : Nat → Int32} {Q : mj_E → mj_H → Prop} {n ks : Nat} {i : Int32} {H : mj_H} (q1 : vp_in (i + 1) N) (q2 : vp_in (i + 2) N) (q3 : vp_in (i + 3) N) (q4 : vp_in (i + 4) N) (I : LI H) (kk : ∀ H2, LI H2 → mj_W M_La_law Q (11, 450, some (N, xs)) n ks 1012 (la_L i) [] H2) : mj_W M_La_law Q (11, 450, some (N, xs)) (n + 1) (ks + 6) 383 (la_L i) [] H := by
  obtain ⟨k, x, F, H1, H2, hA, ⟨fs1, h27⟩, hM, ⟨fs2, h27b⟩, hT, hF, hv, I2⟩ := ar_get (H := H) I (xs (i + 1).toNatClampNeg) (xs (i + 2).toNatClampNeg) (xs (i + 3).toNatClampNeg)
  refine mj_aload_n d_La_law_383 rfl ?_
  refine mj_aload_nX d_La_law_384 rfl ?_
  refine mj_iload d_La_law_385 rfl ?_
  refine mj_iconst (v := 1) d_La_law_387 (by decide) ?_
  refine mj_iadd d_La_law_388 ?_
  refine mj_xald (mj_hxS rfl) d_La_law_389 q1 ?_
  refine mj_aload_nX d_La_law_390 rfl ?_
  refine mj_iload d_La_law_391 rfl ?_
  refine mj_iconst (v := 2) d_La_law_393 (by decide) ?_
  refine mj_iadd d_La_law_394 ?_
  refine mj_xald (mj_hxS rfl) d_La_law_395 q2 ?_
  refine mj_aload_nX d_La_law_396 rfl ?_
  refine mj_iload d_La_law_397 rfl ?_
  refine mj_iconst (v := 3) d_La_law_399 (by decide) ?_
  refine mj_iadd d_La_law_400 ?_
  refine mj_xald (mj_hxS rfl) d_La_law_401 q3 ?_
  refine mj_aload d_La_law_402 rfl ?_
  refine mj_cSH (kc := n) (ks := ks) (S := []) (S1 := [.int k]) hA d_La_law_404 cwH_La_get ml_La_83 st_La_get ⟨Nat.le_of_ble_eq_true rfl, Nat.le_of_ble_eq_true rfl⟩ rfl (Nat.le_of_ble_eq_true rfl) rfl rfl ?_
  refine mj_istore d_La_law_407 (by decide) rfl rfl ?_
  refine mj_aload_n d_La_law_409 rfl ?_
  refine mj_aload_nX d_La_law_410 rfl ?_
  refine mj_iload d_La_law_411 rfl ?_
  refine mj_iconst (v := 1) d_La_law_413 (by decide) ?_
  refine mj_iadd d_La_law_414 ?_
  refine mj_xald (mj_hxS rfl) d_La_law_415 q1 ?_
  refine mj_aload_nX d_La_law_416 rfl ?_
  refine mj_iload d_La_law_417 rfl ?_
  refine mj_iconst (v := 2) d_La_law_419 (by decide) ?_
  refine mj_iadd d_La_law_420 ?_
  refine mj_xald (mj_hxS rfl) d_La_law_421 q2 ?_
  refine mj_aload_nX d_La_law_422 rfl ?_
  refine mj_iload d_La_law_423 rfl ?_
  refine mj_iconst (v := 3) d_La_law_425 (by decide) ?_
  refine mj_iadd d_La_law_426 ?_
  refine mj_xald (mj_hxS rfl) d_La_law_427 q3 ?_
  refine mj_cV (kc := n) (ks := ks) (S := []) (S1 := [.double x]) hM d_La_law_428 cw_Mo_get ml_La_86 im_Mo_get se_Mo_get rfl h27 ⟨Nat.le_of_ble_eq_true rfl, Nat.le_of_ble_eq_true rfl⟩ rfl (Nat.le_of_ble_eq_true rfl) rfl rfl ?_
  refine mj_dstore d_La_law_431 (by decide) rfl rfl ?_
  refine mj_aload_n d_La_law_433 rfl ?_
  refine mj_cV (kc := n) (ks := ks) (As := []) (S := []) (S1 := [.int k]) hT d_La_law_434 cw_Mo_thrown ml_La_70 im_Mo_thrown se_Mo_thrown rfl h27b ⟨Nat.le_of_ble_eq_true rfl, Nat.le_of_ble_eq_true rfl⟩ rfl (Nat.le_of_ble_eq_true rfl) rfl rfl ?_
  refine mj_iload d_La_law_437 rfl ?_
  refine mj_icmp_eq (tgt := 444) d_La_law_439 (by decide) (fun _ => ?_) (fun e => absurd rfl e)
  have fin : mj_W M_La_law Q (11, 450, some (N, xs)) n ks 481 [some (.retAddr 1), some (.ref 0), some (.ref 27), some (.ref 40), some (.ref 41), some (.int i), some (.int k), some (.double x), none] [] H2 := by
    refine mj_goto (tgt := 1012) d_La_law_481 (by decide) ?_
    exact mj_fg 6 rfl (mj_fg 7 rfl (kk H2 I2))
  refine mj_iload d_La_law_444 rfl ?_
  refine mj_if_ne (tgt := 481) d_La_law_446 (by decide) (fun _ => fin) (fun e0 => ?_)
  have hv0 := hv e0
  refine mj_aload d_La_law_449 rfl ?_
  refine mj_iconst (v := 0) d_La_law_451 (by decide) ?_
  refine mj_dald d_La_law_452 hF vp_in01 ?_
  refine mj_dload d_La_law_453 rfl ?_
  refine mj_dcmp d_La_law_455 ?_
  refine mj_if_eq (tgt := 481) d_La_law_456 (by decide) (fun _ => fin) (fun e1 => ?_)
  have e2 : ¬ Op.cmpValue (FP.dcmp x x) .l = 0 := fun e => e1 (show Op.cmpValue (FP.dcmp (F 0) x) .l = 0 by rw [hv0]; exact e)
  refine mj_aload d_La_law_459 rfl ?_
  refine mj_iconst (v := 0) d_La_law_461 (by decide) ?_
  refine mj_dald d_La_law_462 hF vp_in01 ?_
  refine mj_aload d_La_law_463 rfl ?_
  refine mj_iconst (v := 0) d_La_law_465 (by decide) ?_
  refine mj_dald d_La_law_466 hF vp_in01 ?_
  refine mj_dcmp d_La_law_467 ?_
  refine mj_if_eq (tgt := 479) d_La_law_468 (by decide) (fun e => absurd (show Op.cmpValue (FP.dcmp x x) .l = 0 by rw [← hv0]; exact e) e2) (fun _ => ?_)
  refine mj_dload d_La_law_471 rfl ?_
  refine mj_dload d_La_law_473 rfl ?_
  refine mj_dcmp d_La_law_475 ?_
  exact mj_if_ne (tgt := 481) d_La_law_476 (by decide) (fun _ => fin) (fun e => absurd e e2)
set_option maxRecDepth 100000 in
set_option maxHeartbeats 4000000 in
theorem lm_bits {N : Nat} {xs : Nat → Int32} {Q : mj_E → mj_H → Prop} {n ks : Nat} {i : Int32} {H : mj_H} (q1 : vp_in (i + 1) N) (q2 : vp_in (i + 2) N) (q3 : vp_in (i + 3) N) (q4 : vp_in (i + 4) N) (I : LI H) (kk : ∀ H2, LI H2 → mj_W M_La_law Q (11, 450, some (N, xs)) n ks 1012 (la_L i) [] H2) : mj_W M_La_law Q (11, 450, some (N, xs)) (n + 1) (ks + 6) 484 (la_L i) [] H := by
  obtain ⟨k, x, F, H1, H2, hA, ⟨fs1, h27⟩, hM, ⟨fs2, h27b⟩, hT, hF, hv, I2⟩ := ar_bits (H := H) I (xs (i + 1).toNatClampNeg) (xs (i + 2).toNatClampNeg) (xs (i + 3).toNatClampNeg)
  refine mj_aload_n d_La_law_484 rfl ?_
  refine mj_aload_nX d_La_law_485 rfl ?_
  refine mj_iload d_La_law_486 rfl ?_
  refine mj_iconst (v := 1) d_La_law_488 (by decide) ?_
  refine mj_iadd d_La_law_489 ?_
  refine mj_xald (mj_hxS rfl) d_La_law_490 q1 ?_
  refine mj_aload_nX d_La_law_491 rfl ?_
  refine mj_iload d_La_law_492 rfl ?_
  refine mj_iconst (v := 2) d_La_law_494 (by decide) ?_
  refine mj_iadd d_La_law_495 ?_
  refine mj_xald (mj_hxS rfl) d_La_law_496 q2 ?_
  refine mj_aload_nX d_La_law_497 rfl ?_
  refine mj_iload d_La_law_498 rfl ?_
  refine mj_iconst (v := 3) d_La_law_500 (by decide) ?_
  refine mj_iadd d_La_law_501 ?_
  refine mj_xald (mj_hxS rfl) d_La_law_502 q3 ?_
  refine mj_aload_n d_La_law_503 rfl ?_
  refine mj_cSH (kc := n) (ks := ks) (S := []) (S1 := [.int k]) hA d_La_law_504 cwH_La_bits ml_La_87 st_La_bits ⟨Nat.le_of_ble_eq_true rfl, Nat.le_of_ble_eq_true rfl⟩ rfl (Nat.le_of_ble_eq_true rfl) rfl rfl ?_
  refine mj_istore d_La_law_507 (by decide) rfl rfl ?_
  refine mj_aload_n d_La_law_509 rfl ?_
  refine mj_aload_nX d_La_law_510 rfl ?_
  refine mj_iload d_La_law_511 rfl ?_
  refine mj_iconst (v := 1) d_La_law_513 (by decide) ?_
  refine mj_iadd d_La_law_514 ?_
  refine mj_xald (mj_hxS rfl) d_La_law_515 q1 ?_
  refine mj_aload_nX d_La_law_516 rfl ?_
  refine mj_iload d_La_law_517 rfl ?_
  refine mj_iconst (v := 2) d_La_law_519 (by decide) ?_
  refine mj_iadd d_La_law_520 ?_
  refine mj_xald (mj_hxS rfl) d_La_law_521 q2 ?_
  refine mj_aload_nX d_La_law_522 rfl ?_
  refine mj_iload d_La_law_523 rfl ?_
  refine mj_iconst (v := 3) d_La_law_525 (by decide) ?_
  refine mj_iadd d_La_law_526 ?_
  refine mj_xald (mj_hxS rfl) d_La_law_527 q3 ?_
  refine mj_cV (kc := n) (ks := ks) (S := []) (S1 := [.int x]) hM d_La_law_528 cw_Mo_bits ml_La_89 im_Mo_bits se_Mo_bits rfl h27 ⟨Nat.le_of_ble_eq_true rfl, Nat.le_of_ble_eq_true rfl⟩ rfl (Nat.le_of_ble_eq_true rfl) rfl rfl ?_
  refine mj_istore d_La_law_531 (by decide) rfl rfl ?_
  refine mj_aload_n d_La_law_533 rfl ?_
  refine mj_cV (kc := n) (ks := ks) (As := []) (S := []) (S1 := [.int k]) hT d_La_law_534 cw_Mo_thrown ml_La_70 im_Mo_thrown se_Mo_thrown rfl h27b ⟨Nat.le_of_ble_eq_true rfl, Nat.le_of_ble_eq_true rfl⟩ rfl (Nat.le_of_ble_eq_true rfl) rfl rfl ?_
  refine mj_iload d_La_law_537 rfl ?_
  refine mj_icmp_eq (tgt := 544) d_La_law_539 (by decide) (fun _ => ?_) (fun e => absurd rfl e)
  have fin : mj_W M_La_law Q (11, 450, some (N, xs)) n ks 561 [some (.retAddr 1), some (.ref 0), some (.ref 27), some (.ref 40), some (.ref 41), some (.int i), some (.int k), some (.int x), none] [] H2 := by
    refine mj_goto (tgt := 1012) d_La_law_561 (by decide) ?_
    exact mj_fg 6 rfl (mj_fg 7 rfl (kk H2 I2))
  refine mj_iload d_La_law_544 rfl ?_
  refine mj_if_ne (tgt := 561) d_La_law_546 (by decide) (fun _ => fin) (fun e0 => ?_)
  have hv0 := hv e0
  refine mj_aload_n d_La_law_549 rfl ?_
  refine mj_iconst (v := 0) d_La_law_550 (by decide) ?_
  refine mj_lald d_La_law_551 hF vp_in01 ?_
  refine mj_iload d_La_law_552 rfl ?_
  refine mj_i2l d_La_law_554 rfl ?_
  refine mj_lcmp d_La_law_555 ?_
  exact mj_if_eq (tgt := 561) d_La_law_556 (by decide) (fun _ => fin) (fun e => absurd (show lg_cmp (F 0) x.toInt64 = 0 by rw [hv0]; exact lg_cmp_rf _) e)
set_option maxRecDepth 100000 in
set_option maxHeartbeats 4000000 in
theorem lm_encode {N : Nat} {xs : Nat → Int32} {Q : mj_E → mj_H → Prop} {n ks : Nat} {i : Int32} {H : mj_H} (q1 : vp_in (i + 1) N) (q2 : vp_in (i + 2) N) (q3 : vp_in (i + 3) N) (q4 : vp_in (i + 4) N) (I : LI H) (kk : ∀ H2, LI H2 → mj_W M_La_law Q (11, 450, some (N, xs)) n ks 1012 (la_L i) [] H2) : mj_W M_La_law Q (11, 450, some (N, xs)) (n + 1) (ks + 6) 564 (la_L i) [] H := by
  obtain ⟨k, x, F, H1, H2, hA, ⟨fs1, h27⟩, hM, ⟨fs2, h27b⟩, hT, hF, hv, I2⟩ := ar_encode (H := H) I (xs (i + 1).toNatClampNeg)
  refine mj_aload_n d_La_law_564 rfl ?_
  refine mj_aload_nX d_La_law_565 rfl ?_
  refine mj_iload d_La_law_566 rfl ?_
  refine mj_iconst (v := 1) d_La_law_568 (by decide) ?_
  refine mj_iadd d_La_law_569 ?_
  refine mj_xald (mj_hxS rfl) d_La_law_570 q1 ?_
  refine mj_aload_n d_La_law_571 rfl ?_
  refine mj_cSH (kc := n) (ks := ks) (S := []) (S1 := [.int k]) hA d_La_law_572 cwH_La_encode ml_La_90 st_La_encode ⟨Nat.le_of_ble_eq_true rfl, Nat.le_of_ble_eq_true rfl⟩ rfl (Nat.le_of_ble_eq_true rfl) rfl rfl ?_
  refine mj_istore d_La_law_575 (by decide) rfl rfl ?_
  refine mj_aload_n d_La_law_577 rfl ?_
  refine mj_aload_nX d_La_law_578 rfl ?_
  refine mj_iload d_La_law_579 rfl ?_
  refine mj_iconst (v := 1) d_La_law_581 (by decide) ?_
  refine mj_iadd d_La_law_582 ?_
  refine mj_xald (mj_hxS rfl) d_La_law_583 q1 ?_
  refine mj_cV (kc := n) (ks := ks) (S := []) (S1 := [.int x]) hM d_La_law_584 cw_Mo_encode ml_La_93 im_Mo_encode se_Mo_encode rfl h27 ⟨Nat.le_of_ble_eq_true rfl, Nat.le_of_ble_eq_true rfl⟩ rfl (Nat.le_of_ble_eq_true rfl) rfl rfl ?_
  refine mj_istore d_La_law_587 (by decide) rfl rfl ?_
  refine mj_aload_n d_La_law_589 rfl ?_
  refine mj_cV (kc := n) (ks := ks) (As := []) (S := []) (S1 := [.int k]) hT d_La_law_590 cw_Mo_thrown ml_La_70 im_Mo_thrown se_Mo_thrown rfl h27b ⟨Nat.le_of_ble_eq_true rfl, Nat.le_of_ble_eq_true rfl⟩ rfl (Nat.le_of_ble_eq_true rfl) rfl rfl ?_
  refine mj_iload d_La_law_593 rfl ?_
  refine mj_icmp_eq (tgt := 600) d_La_law_595 (by decide) (fun _ => ?_) (fun e => absurd rfl e)
  have fin : mj_W M_La_law Q (11, 450, some (N, xs)) n ks 617 [some (.retAddr 1), some (.ref 0), some (.ref 27), some (.ref 40), some (.ref 41), some (.int i), some (.int k), some (.int x), none] [] H2 := by
    refine mj_goto (tgt := 1012) d_La_law_617 (by decide) ?_
    exact mj_fg 6 rfl (mj_fg 7 rfl (kk H2 I2))
  refine mj_iload d_La_law_600 rfl ?_
  refine mj_if_ne (tgt := 617) d_La_law_602 (by decide) (fun _ => fin) (fun e0 => ?_)
  have hv0 := hv e0
  refine mj_aload_n d_La_law_605 rfl ?_
  refine mj_iconst (v := 0) d_La_law_606 (by decide) ?_
  refine mj_lald d_La_law_607 hF vp_in01 ?_
  refine mj_iload d_La_law_608 rfl ?_
  refine mj_i2l d_La_law_610 rfl ?_
  refine mj_lcmp d_La_law_611 ?_
  exact mj_if_eq (tgt := 617) d_La_law_612 (by decide) (fun _ => fin) (fun e => absurd (show lg_cmp (F 0) x.toInt64 = 0 by rw [hv0]; exact lg_cmp_rf _) e)
set_option maxRecDepth 100000 in
set_option maxHeartbeats 4000000 in
theorem lm_decode {N : Nat} {xs : Nat → Int32} {Q : mj_E → mj_H → Prop} {n ks : Nat} {i : Int32} {H : mj_H} (q1 : vp_in (i + 1) N) (q2 : vp_in (i + 2) N) (q3 : vp_in (i + 3) N) (q4 : vp_in (i + 4) N) (I : LI H) (kk : ∀ H2, LI H2 → mj_W M_La_law Q (11, 450, some (N, xs)) n ks 1012 (la_L i) [] H2) : mj_W M_La_law Q (11, 450, some (N, xs)) (n + 1) (ks + 6) 620 (la_L i) [] H := by
  obtain ⟨k, x, F, H1, H2, hA, ⟨fs1, h27⟩, hM, ⟨fs2, h27b⟩, hT, hF, hv, I2⟩ := ar_decode (H := H) I
  refine mj_aload_n d_La_law_620 rfl ?_
  refine mj_aload_n d_La_law_621 rfl ?_
  refine mj_cSH (kc := n) (ks := ks) (S := []) (S1 := [.int k]) hA d_La_law_622 cwH_La_decode ml_La_94 st_La_decode ⟨Nat.le_of_ble_eq_true rfl, Nat.le_of_ble_eq_true rfl⟩ rfl (Nat.le_of_ble_eq_true rfl) rfl rfl ?_
  refine mj_istore d_La_law_625 (by decide) rfl rfl ?_
  refine mj_aload_n d_La_law_627 rfl ?_
  refine mj_cV (kc := n) (ks := ks) (S := []) (S1 := [.int x]) hM d_La_law_628 cw_Mo_decode ml_La_97 im_Mo_decode se_Mo_decode rfl h27 ⟨Nat.le_of_ble_eq_true rfl, Nat.le_of_ble_eq_true rfl⟩ rfl (Nat.le_of_ble_eq_true rfl) rfl rfl ?_
  refine mj_istore d_La_law_631 (by decide) rfl rfl ?_
  refine mj_aload_n d_La_law_633 rfl ?_
  refine mj_cV (kc := n) (ks := ks) (As := []) (S := []) (S1 := [.int k]) hT d_La_law_634 cw_Mo_thrown ml_La_70 im_Mo_thrown se_Mo_thrown rfl h27b ⟨Nat.le_of_ble_eq_true rfl, Nat.le_of_ble_eq_true rfl⟩ rfl (Nat.le_of_ble_eq_true rfl) rfl rfl ?_
  refine mj_iload d_La_law_637 rfl ?_
  refine mj_icmp_eq (tgt := 644) d_La_law_639 (by decide) (fun _ => ?_) (fun e => absurd rfl e)
  have fin : mj_W M_La_law Q (11, 450, some (N, xs)) n ks 661 [some (.retAddr 1), some (.ref 0), some (.ref 27), some (.ref 40), some (.ref 41), some (.int i), some (.int k), some (.int x), none] [] H2 := by
    refine mj_goto (tgt := 1012) d_La_law_661 (by decide) ?_
    exact mj_fg 6 rfl (mj_fg 7 rfl (kk H2 I2))
  refine mj_iload d_La_law_644 rfl ?_
  refine mj_if_ne (tgt := 661) d_La_law_646 (by decide) (fun _ => fin) (fun e0 => ?_)
  have hv0 := hv e0
  refine mj_aload_n d_La_law_649 rfl ?_
  refine mj_iconst (v := 0) d_La_law_650 (by decide) ?_
  refine mj_lald d_La_law_651 hF vp_in01 ?_
  refine mj_iload d_La_law_652 rfl ?_
  refine mj_i2l d_La_law_654 rfl ?_
  refine mj_lcmp d_La_law_655 ?_
  exact mj_if_eq (tgt := 661) d_La_law_656 (by decide) (fun _ => fin) (fun e => absurd (show lg_cmp (F 0) x.toInt64 = 0 by rw [hv0]; exact lg_cmp_rf _) e)
set_option maxRecDepth 100000 in
set_option maxHeartbeats 4000000 in
theorem lm_where {N : Nat} {xs : Nat → Int32} {Q : mj_E → mj_H → Prop} {n ks : Nat} {i : Int32} {H : mj_H} (q1 : vp_in (i + 1) N) (q2 : vp_in (i + 2) N) (q3 : vp_in (i + 3) N) (q4 : vp_in (i + 4) N) (I : LI H) (kk : ∀ H2, LI H2 → mj_W M_La_law Q (11, 450, some (N, xs)) n ks 1012 (la_L i) [] H2) : mj_W M_La_law Q (11, 450, some (N, xs)) (n + 1) (ks + 6) 664 (la_L i) [] H := by
  obtain ⟨v, H2, ⟨fs, h0⟩, ⟨fs2, h27⟩, hc, hm, I2⟩ := ar_where I
  refine mj_aload_n d_La_law_664 rfl ?_
  refine mj_cV (kc := n + 1) (ks := ks + 6) (As := []) (S := []) (S1 := [.int v]) hc d_La_law_665 cw_RF_where ml_La_98 im_RF_where se_RF_where rfl h0 ⟨Nat.le_of_ble_eq_true rfl, Nat.le_of_ble_eq_true rfl⟩ rfl (Nat.le_of_ble_eq_true rfl) rfl rfl ?_
  refine mj_aload_n d_La_law_668 rfl ?_
  refine mj_cV (kc := n + 1) (ks := ks + 6) (As := []) (S := [.int v]) (S1 := [.int v, .int v]) hm d_La_law_669 cw_Mo_where ml_La_101 im_Mo_where se_Mo_where rfl h27 ⟨Nat.le_of_ble_eq_true rfl, Nat.le_of_ble_eq_true rfl⟩ rfl (Nat.le_of_ble_eq_true rfl) rfl rfl ?_
  exact mj_icmp_eq (tgt := 1012) d_La_law_672 (by decide) (fun _ => mj_more (kk H2 I2)) (fun e => absurd rfl e)
set_option maxRecDepth 100000 in
set_option maxHeartbeats 4000000 in
theorem lm_file {N : Nat} {xs : Nat → Int32} {Q : mj_E → mj_H → Prop} {n ks : Nat} {i : Int32} {H : mj_H} (q1 : vp_in (i + 1) N) (q2 : vp_in (i + 2) N) (q3 : vp_in (i + 3) N) (q4 : vp_in (i + 4) N) (I : LI H) (kk : ∀ H2, LI H2 → mj_W M_La_law Q (11, 450, some (N, xs)) n ks 1012 (la_L i) [] H2) : mj_W M_La_law Q (11, 450, some (N, xs)) (n + 1) (ks + 6) 677 (la_L i) [] H := by
  obtain ⟨k, x, F, H1, H2, hA, ⟨fs1, h27⟩, hM, ⟨fs2, h27b⟩, hT, hF, hv, I2⟩ := ar_file (H := H) I (xs (i + 1).toNatClampNeg)
  refine mj_aload_n d_La_law_677 rfl ?_
  refine mj_aload_nX d_La_law_678 rfl ?_
  refine mj_iload d_La_law_679 rfl ?_
  refine mj_iconst (v := 1) d_La_law_681 (by decide) ?_
  refine mj_iadd d_La_law_682 ?_
  refine mj_xald (mj_hxS rfl) d_La_law_683 q1 ?_
  refine mj_aload_n d_La_law_684 rfl ?_
  refine mj_cSH (kc := n) (ks := ks) (S := []) (S1 := [.int k]) hA d_La_law_685 cwH_La_file ml_La_102 st_La_file ⟨Nat.le_of_ble_eq_true rfl, Nat.le_of_ble_eq_true rfl⟩ rfl (Nat.le_of_ble_eq_true rfl) rfl rfl ?_
  refine mj_istore d_La_law_688 (by decide) rfl rfl ?_
  refine mj_aload_n d_La_law_690 rfl ?_
  refine mj_aload_nX d_La_law_691 rfl ?_
  refine mj_iload d_La_law_692 rfl ?_
  refine mj_iconst (v := 1) d_La_law_694 (by decide) ?_
  refine mj_iadd d_La_law_695 ?_
  refine mj_xald (mj_hxS rfl) d_La_law_696 q1 ?_
  refine mj_cV (kc := n) (ks := ks) (S := []) (S1 := [.int x]) hM d_La_law_697 cw_Mo_file ml_La_104 im_Mo_file se_Mo_file rfl h27 ⟨Nat.le_of_ble_eq_true rfl, Nat.le_of_ble_eq_true rfl⟩ rfl (Nat.le_of_ble_eq_true rfl) rfl rfl ?_
  refine mj_istore d_La_law_700 (by decide) rfl rfl ?_
  refine mj_aload_n d_La_law_702 rfl ?_
  refine mj_cV (kc := n) (ks := ks) (As := []) (S := []) (S1 := [.int k]) hT d_La_law_703 cw_Mo_thrown ml_La_70 im_Mo_thrown se_Mo_thrown rfl h27b ⟨Nat.le_of_ble_eq_true rfl, Nat.le_of_ble_eq_true rfl⟩ rfl (Nat.le_of_ble_eq_true rfl) rfl rfl ?_
  refine mj_iload d_La_law_706 rfl ?_
  refine mj_icmp_eq (tgt := 713) d_La_law_708 (by decide) (fun _ => ?_) (fun e => absurd rfl e)
  have fin : mj_W M_La_law Q (11, 450, some (N, xs)) n ks 730 [some (.retAddr 1), some (.ref 0), some (.ref 27), some (.ref 40), some (.ref 41), some (.int i), some (.int k), some (.int x), none] [] H2 := by
    refine mj_goto (tgt := 1012) d_La_law_730 (by decide) ?_
    exact mj_fg 6 rfl (mj_fg 7 rfl (kk H2 I2))
  refine mj_iload d_La_law_713 rfl ?_
  refine mj_if_ne (tgt := 730) d_La_law_715 (by decide) (fun _ => fin) (fun e0 => ?_)
  have hv0 := hv e0
  refine mj_aload_n d_La_law_718 rfl ?_
  refine mj_iconst (v := 0) d_La_law_719 (by decide) ?_
  refine mj_lald d_La_law_720 hF vp_in01 ?_
  refine mj_iload d_La_law_721 rfl ?_
  refine mj_i2l d_La_law_723 rfl ?_
  refine mj_lcmp d_La_law_724 ?_
  exact mj_if_eq (tgt := 730) d_La_law_725 (by decide) (fun _ => fin) (fun e => absurd (show lg_cmp (F 0) x.toInt64 = 0 by rw [hv0]; exact lg_cmp_rf _) e)
set_option maxRecDepth 100000 in
set_option maxHeartbeats 4000000 in
theorem lm_patch {N : Nat} {xs : Nat → Int32} {Q : mj_E → mj_H → Prop} {n ks : Nat} {i : Int32} {H : mj_H} (q1 : vp_in (i + 1) N) (q2 : vp_in (i + 2) N) (q3 : vp_in (i + 3) N) (q4 : vp_in (i + 4) N) (I : LI H) (kk : ∀ H2, LI H2 → mj_W M_La_law Q (11, 450, some (N, xs)) n ks 1012 (la_L i) [] H2) : mj_W M_La_law Q (11, 450, some (N, xs)) (n + 1) (ks + 6) 733 (la_L i) [] H := by
  obtain ⟨k, x, F, H1, H2, hA, ⟨fs1, h27⟩, hM, ⟨fs2, h27b⟩, hT, hF, hv, I2⟩ := ar_patch (H := H) I (xs (i + 1).toNatClampNeg) (xs (i + 2).toNatClampNeg)
  refine mj_aload_n d_La_law_733 rfl ?_
  refine mj_aload_nX d_La_law_734 rfl ?_
  refine mj_iload d_La_law_735 rfl ?_
  refine mj_iconst (v := 1) d_La_law_737 (by decide) ?_
  refine mj_iadd d_La_law_738 ?_
  refine mj_xald (mj_hxS rfl) d_La_law_739 q1 ?_
  refine mj_aload_nX d_La_law_740 rfl ?_
  refine mj_iload d_La_law_741 rfl ?_
  refine mj_iconst (v := 2) d_La_law_743 (by decide) ?_
  refine mj_iadd d_La_law_744 ?_
  refine mj_xald (mj_hxS rfl) d_La_law_745 q2 ?_
  refine mj_aload_n d_La_law_746 rfl ?_
  refine mj_cSH (kc := n) (ks := ks) (S := []) (S1 := [.int k]) hA d_La_law_747 cwH_La_patch ml_La_105 st_La_patch ⟨Nat.le_of_ble_eq_true rfl, Nat.le_of_ble_eq_true rfl⟩ rfl (Nat.le_of_ble_eq_true rfl) rfl rfl ?_
  refine mj_istore d_La_law_750 (by decide) rfl rfl ?_
  refine mj_aload_n d_La_law_752 rfl ?_
  refine mj_aload_nX d_La_law_753 rfl ?_
  refine mj_iload d_La_law_754 rfl ?_
  refine mj_iconst (v := 1) d_La_law_756 (by decide) ?_
  refine mj_iadd d_La_law_757 ?_
  refine mj_xald (mj_hxS rfl) d_La_law_758 q1 ?_
  refine mj_aload_nX d_La_law_759 rfl ?_
  refine mj_iload d_La_law_760 rfl ?_
  refine mj_iconst (v := 2) d_La_law_762 (by decide) ?_
  refine mj_iadd d_La_law_763 ?_
  refine mj_xald (mj_hxS rfl) d_La_law_764 q2 ?_
  refine mj_cV (kc := n) (ks := ks) (S := []) (S1 := [.int x]) hM d_La_law_765 cw_Mo_patch ml_La_107 im_Mo_patch se_Mo_patch rfl h27 ⟨Nat.le_of_ble_eq_true rfl, Nat.le_of_ble_eq_true rfl⟩ rfl (Nat.le_of_ble_eq_true rfl) rfl rfl ?_
  refine mj_istore d_La_law_768 (by decide) rfl rfl ?_
  refine mj_aload_n d_La_law_770 rfl ?_
  refine mj_cV (kc := n) (ks := ks) (As := []) (S := []) (S1 := [.int k]) hT d_La_law_771 cw_Mo_thrown ml_La_70 im_Mo_thrown se_Mo_thrown rfl h27b ⟨Nat.le_of_ble_eq_true rfl, Nat.le_of_ble_eq_true rfl⟩ rfl (Nat.le_of_ble_eq_true rfl) rfl rfl ?_
  refine mj_iload d_La_law_774 rfl ?_
  refine mj_icmp_eq (tgt := 781) d_La_law_776 (by decide) (fun _ => ?_) (fun e => absurd rfl e)
  have fin : mj_W M_La_law Q (11, 450, some (N, xs)) n ks 798 [some (.retAddr 1), some (.ref 0), some (.ref 27), some (.ref 40), some (.ref 41), some (.int i), some (.int k), some (.int x), none] [] H2 := by
    refine mj_goto (tgt := 1012) d_La_law_798 (by decide) ?_
    exact mj_fg 6 rfl (mj_fg 7 rfl (kk H2 I2))
  refine mj_iload d_La_law_781 rfl ?_
  refine mj_if_ne (tgt := 798) d_La_law_783 (by decide) (fun _ => fin) (fun e0 => ?_)
  have hv0 := hv e0
  refine mj_aload_n d_La_law_786 rfl ?_
  refine mj_iconst (v := 0) d_La_law_787 (by decide) ?_
  refine mj_lald d_La_law_788 hF vp_in01 ?_
  refine mj_iload d_La_law_789 rfl ?_
  refine mj_i2l d_La_law_791 rfl ?_
  refine mj_lcmp d_La_law_792 ?_
  exact mj_if_eq (tgt := 798) d_La_law_793 (by decide) (fun _ => fin) (fun e => absurd (show lg_cmp (F 0) x.toInt64 = 0 by rw [hv0]; exact lg_cmp_rf _) e)
set_option maxRecDepth 100000 in
set_option maxHeartbeats 4000000 in
theorem lm_cut {N : Nat} {xs : Nat → Int32} {Q : mj_E → mj_H → Prop} {n ks : Nat} {i : Int32} {H : mj_H} (q1 : vp_in (i + 1) N) (q2 : vp_in (i + 2) N) (q3 : vp_in (i + 3) N) (q4 : vp_in (i + 4) N) (I : LI H) (kk : ∀ H2, LI H2 → mj_W M_La_law Q (11, 450, some (N, xs)) n ks 1012 (la_L i) [] H2) : mj_W M_La_law Q (11, 450, some (N, xs)) (n + 1) (ks + 6) 801 (la_L i) [] H := by
  obtain ⟨k, x, F, H1, H2, hA, ⟨fs1, h27⟩, hM, ⟨fs2, h27b⟩, hT, hF, hv, I2⟩ := ar_cut (H := H) I (xs (i + 1).toNatClampNeg)
  refine mj_aload_n d_La_law_801 rfl ?_
  refine mj_aload_nX d_La_law_802 rfl ?_
  refine mj_iload d_La_law_803 rfl ?_
  refine mj_iconst (v := 1) d_La_law_805 (by decide) ?_
  refine mj_iadd d_La_law_806 ?_
  refine mj_xald (mj_hxS rfl) d_La_law_807 q1 ?_
  refine mj_aload_n d_La_law_808 rfl ?_
  refine mj_cSH (kc := n) (ks := ks) (S := []) (S1 := [.int k]) hA d_La_law_809 cwH_La_cut ml_La_108 st_La_cut ⟨Nat.le_of_ble_eq_true rfl, Nat.le_of_ble_eq_true rfl⟩ rfl (Nat.le_of_ble_eq_true rfl) rfl rfl ?_
  refine mj_istore d_La_law_812 (by decide) rfl rfl ?_
  refine mj_aload_n d_La_law_814 rfl ?_
  refine mj_aload_nX d_La_law_815 rfl ?_
  refine mj_iload d_La_law_816 rfl ?_
  refine mj_iconst (v := 1) d_La_law_818 (by decide) ?_
  refine mj_iadd d_La_law_819 ?_
  refine mj_xald (mj_hxS rfl) d_La_law_820 q1 ?_
  refine mj_cV (kc := n) (ks := ks) (S := []) (S1 := [.int x]) hM d_La_law_821 cw_Mo_cut ml_La_110 im_Mo_cut se_Mo_cut rfl h27 ⟨Nat.le_of_ble_eq_true rfl, Nat.le_of_ble_eq_true rfl⟩ rfl (Nat.le_of_ble_eq_true rfl) rfl rfl ?_
  refine mj_istore d_La_law_824 (by decide) rfl rfl ?_
  refine mj_aload_n d_La_law_826 rfl ?_
  refine mj_cV (kc := n) (ks := ks) (As := []) (S := []) (S1 := [.int k]) hT d_La_law_827 cw_Mo_thrown ml_La_70 im_Mo_thrown se_Mo_thrown rfl h27b ⟨Nat.le_of_ble_eq_true rfl, Nat.le_of_ble_eq_true rfl⟩ rfl (Nat.le_of_ble_eq_true rfl) rfl rfl ?_
  refine mj_iload d_La_law_830 rfl ?_
  refine mj_icmp_eq (tgt := 837) d_La_law_832 (by decide) (fun _ => ?_) (fun e => absurd rfl e)
  have fin : mj_W M_La_law Q (11, 450, some (N, xs)) n ks 854 [some (.retAddr 1), some (.ref 0), some (.ref 27), some (.ref 40), some (.ref 41), some (.int i), some (.int k), some (.int x), none] [] H2 := by
    refine mj_goto (tgt := 1012) d_La_law_854 (by decide) ?_
    exact mj_fg 6 rfl (mj_fg 7 rfl (kk H2 I2))
  refine mj_iload d_La_law_837 rfl ?_
  refine mj_if_ne (tgt := 854) d_La_law_839 (by decide) (fun _ => fin) (fun e0 => ?_)
  have hv0 := hv e0
  refine mj_aload_n d_La_law_842 rfl ?_
  refine mj_iconst (v := 0) d_La_law_843 (by decide) ?_
  refine mj_lald d_La_law_844 hF vp_in01 ?_
  refine mj_iload d_La_law_845 rfl ?_
  refine mj_i2l d_La_law_847 rfl ?_
  refine mj_lcmp d_La_law_848 ?_
  exact mj_if_eq (tgt := 854) d_La_law_849 (by decide) (fun _ => fin) (fun e => absurd (show lg_cmp (F 0) x.toInt64 = 0 by rw [hv0]; exact lg_cmp_rf _) e)
set_option maxRecDepth 100000 in
set_option maxHeartbeats 4000000 in
theorem lm_count {N : Nat} {xs : Nat → Int32} {Q : mj_E → mj_H → Prop} {n ks : Nat} {i : Int32} {H : mj_H} (q1 : vp_in (i + 1) N) (q2 : vp_in (i + 2) N) (q3 : vp_in (i + 3) N) (q4 : vp_in (i + 4) N) (I : LI H) (kk : ∀ H2, LI H2 → mj_W M_La_law Q (11, 450, some (N, xs)) n ks 1012 (la_L i) [] H2) : mj_W M_La_law Q (11, 450, some (N, xs)) (n + 1) (ks + 6) 857 (la_L i) [] H := by
  obtain ⟨k, x, F, H1, H2, hA, ⟨fs1, h27⟩, hM, ⟨fs2, h27b⟩, hT, hF, hv, I2⟩ := ar_count (H := H) I (xs (i + 1).toNatClampNeg)
  refine mj_aload_n d_La_law_857 rfl ?_
  refine mj_aload_nX d_La_law_858 rfl ?_
  refine mj_iload d_La_law_859 rfl ?_
  refine mj_iconst (v := 1) d_La_law_861 (by decide) ?_
  refine mj_iadd d_La_law_862 ?_
  refine mj_xald (mj_hxS rfl) d_La_law_863 q1 ?_
  refine mj_aload_n d_La_law_864 rfl ?_
  refine mj_cSH (kc := n) (ks := ks) (S := []) (S1 := [.int k]) hA d_La_law_865 cwH_La_count ml_La_111 st_La_count ⟨Nat.le_of_ble_eq_true rfl, Nat.le_of_ble_eq_true rfl⟩ rfl (Nat.le_of_ble_eq_true rfl) rfl rfl ?_
  refine mj_istore d_La_law_868 (by decide) rfl rfl ?_
  refine mj_aload_n d_La_law_870 rfl ?_
  refine mj_aload_nX d_La_law_871 rfl ?_
  refine mj_iload d_La_law_872 rfl ?_
  refine mj_iconst (v := 1) d_La_law_874 (by decide) ?_
  refine mj_iadd d_La_law_875 ?_
  refine mj_xald (mj_hxS rfl) d_La_law_876 q1 ?_
  refine mj_cV (kc := n) (ks := ks) (S := []) (S1 := [.int x]) hM d_La_law_877 cw_Mo_count ml_La_113 im_Mo_count se_Mo_count rfl h27 ⟨Nat.le_of_ble_eq_true rfl, Nat.le_of_ble_eq_true rfl⟩ rfl (Nat.le_of_ble_eq_true rfl) rfl rfl ?_
  refine mj_istore d_La_law_880 (by decide) rfl rfl ?_
  refine mj_aload_n d_La_law_882 rfl ?_
  refine mj_cV (kc := n) (ks := ks) (As := []) (S := []) (S1 := [.int k]) hT d_La_law_883 cw_Mo_thrown ml_La_70 im_Mo_thrown se_Mo_thrown rfl h27b ⟨Nat.le_of_ble_eq_true rfl, Nat.le_of_ble_eq_true rfl⟩ rfl (Nat.le_of_ble_eq_true rfl) rfl rfl ?_
  refine mj_iload d_La_law_886 rfl ?_
  refine mj_icmp_eq (tgt := 893) d_La_law_888 (by decide) (fun _ => ?_) (fun e => absurd rfl e)
  have fin : mj_W M_La_law Q (11, 450, some (N, xs)) n ks 910 [some (.retAddr 1), some (.ref 0), some (.ref 27), some (.ref 40), some (.ref 41), some (.int i), some (.int k), some (.int x), none] [] H2 := by
    refine mj_goto (tgt := 1012) d_La_law_910 (by decide) ?_
    exact mj_fg 6 rfl (mj_fg 7 rfl (kk H2 I2))
  refine mj_iload d_La_law_893 rfl ?_
  refine mj_if_ne (tgt := 910) d_La_law_895 (by decide) (fun _ => fin) (fun e0 => ?_)
  have hv0 := hv e0
  refine mj_aload_n d_La_law_898 rfl ?_
  refine mj_iconst (v := 0) d_La_law_899 (by decide) ?_
  refine mj_lald d_La_law_900 hF vp_in01 ?_
  refine mj_iload d_La_law_901 rfl ?_
  refine mj_i2l d_La_law_903 rfl ?_
  refine mj_lcmp d_La_law_904 ?_
  exact mj_if_eq (tgt := 910) d_La_law_905 (by decide) (fun _ => fin) (fun e => absurd (show lg_cmp (F 0) x.toInt64 = 0 by rw [hv0]; exact lg_cmp_rf _) e)
set_option maxRecDepth 100000 in
set_option maxHeartbeats 4000000 in
theorem lm_spread {N : Nat} {xs : Nat → Int32} {Q : mj_E → mj_H → Prop} {n ks : Nat} {i : Int32} {H : mj_H} (q1 : vp_in (i + 1) N) (q2 : vp_in (i + 2) N) (q3 : vp_in (i + 3) N) (q4 : vp_in (i + 4) N) (I : LI H) (kk : ∀ H2, LI H2 → mj_W M_La_law Q (11, 450, some (N, xs)) n ks 1012 (la_L i) [] H2) : mj_W M_La_law Q (11, 450, some (N, xs)) (n + 1) (ks + 6) 913 (la_L i) [] H := by
  obtain ⟨k, x, F, H1, H2, hA, ⟨fs1, h27⟩, hM, ⟨fs2, h27b⟩, hT, hF, hv, I2⟩ := ar_spread (H := H) I (xs (i + 1).toNatClampNeg) (xs (i + 2).toNatClampNeg)
  refine mj_aload_n d_La_law_913 rfl ?_
  refine mj_aload_nX d_La_law_914 rfl ?_
  refine mj_iload d_La_law_915 rfl ?_
  refine mj_iconst (v := 1) d_La_law_917 (by decide) ?_
  refine mj_iadd d_La_law_918 ?_
  refine mj_xald (mj_hxS rfl) d_La_law_919 q1 ?_
  refine mj_aload_nX d_La_law_920 rfl ?_
  refine mj_iload d_La_law_921 rfl ?_
  refine mj_iconst (v := 2) d_La_law_923 (by decide) ?_
  refine mj_iadd d_La_law_924 ?_
  refine mj_xald (mj_hxS rfl) d_La_law_925 q2 ?_
  refine mj_i2d d_La_law_926 ?_
  refine mj_ldc2d d_La_law_927 kd_La_77 ?_
  refine mj_dmul d_La_law_930 (w_vn _) ?_
  refine mj_aload d_La_law_931 rfl ?_
  refine mj_cSH (kc := n) (ks := ks) (S := []) (S1 := [.int k]) hA d_La_law_933 cwH_La_spread ml_La_114 st_La_spread ⟨Nat.le_of_ble_eq_true rfl, Nat.le_of_ble_eq_true rfl⟩ rfl (Nat.le_of_ble_eq_true rfl) rfl rfl ?_
  refine mj_istore d_La_law_936 (by decide) rfl rfl ?_
  refine mj_aload_n d_La_law_938 rfl ?_
  refine mj_aload_nX d_La_law_939 rfl ?_
  refine mj_iload d_La_law_940 rfl ?_
  refine mj_iconst (v := 1) d_La_law_942 (by decide) ?_
  refine mj_iadd d_La_law_943 ?_
  refine mj_xald (mj_hxS rfl) d_La_law_944 q1 ?_
  refine mj_aload_nX d_La_law_945 rfl ?_
  refine mj_iload d_La_law_946 rfl ?_
  refine mj_iconst (v := 2) d_La_law_948 (by decide) ?_
  refine mj_iadd d_La_law_949 ?_
  refine mj_xald (mj_hxS rfl) d_La_law_950 q2 ?_
  refine mj_i2d d_La_law_951 ?_
  refine mj_ldc2d d_La_law_952 kd_La_77 ?_
  refine mj_dmul d_La_law_955 (w_vn _) ?_
  refine mj_cV (kc := n) (ks := ks) (S := []) (S1 := [.double x]) hM d_La_law_956 cw_Mo_spread ml_La_117 im_Mo_spread se_Mo_spread rfl h27 ⟨Nat.le_of_ble_eq_true rfl, Nat.le_of_ble_eq_true rfl⟩ rfl (Nat.le_of_ble_eq_true rfl) rfl rfl ?_
  refine mj_dstore d_La_law_959 (by decide) rfl rfl ?_
  refine mj_aload_n d_La_law_961 rfl ?_
  refine mj_cV (kc := n) (ks := ks) (As := []) (S := []) (S1 := [.int k]) hT d_La_law_962 cw_Mo_thrown ml_La_70 im_Mo_thrown se_Mo_thrown rfl h27b ⟨Nat.le_of_ble_eq_true rfl, Nat.le_of_ble_eq_true rfl⟩ rfl (Nat.le_of_ble_eq_true rfl) rfl rfl ?_
  refine mj_iload d_La_law_965 rfl ?_
  refine mj_icmp_eq (tgt := 972) d_La_law_967 (by decide) (fun _ => ?_) (fun e => absurd rfl e)
  have fin : mj_W M_La_law Q (11, 450, some (N, xs)) n ks 1009 [some (.retAddr 1), some (.ref 0), some (.ref 27), some (.ref 40), some (.ref 41), some (.int i), some (.int k), some (.double x), none] [] H2 := by
    refine mj_goto (tgt := 1012) d_La_law_1009 (by decide) ?_
    exact mj_fg 6 rfl (mj_fg 7 rfl (kk H2 I2))
  refine mj_iload d_La_law_972 rfl ?_
  refine mj_if_ne (tgt := 1009) d_La_law_974 (by decide) (fun _ => fin) (fun e0 => ?_)
  have hv0 := hv e0
  refine mj_aload d_La_law_977 rfl ?_
  refine mj_iconst (v := 0) d_La_law_979 (by decide) ?_
  refine mj_dald d_La_law_980 hF vp_in01 ?_
  refine mj_dload d_La_law_981 rfl ?_
  refine mj_dcmp d_La_law_983 ?_
  refine mj_if_eq (tgt := 1009) d_La_law_984 (by decide) (fun _ => fin) (fun e1 => ?_)
  have e2 : ¬ Op.cmpValue (FP.dcmp x x) .l = 0 := fun e => e1 (show Op.cmpValue (FP.dcmp (F 0) x) .l = 0 by rw [hv0]; exact e)
  refine mj_aload d_La_law_987 rfl ?_
  refine mj_iconst (v := 0) d_La_law_989 (by decide) ?_
  refine mj_dald d_La_law_990 hF vp_in01 ?_
  refine mj_aload d_La_law_991 rfl ?_
  refine mj_iconst (v := 0) d_La_law_993 (by decide) ?_
  refine mj_dald d_La_law_994 hF vp_in01 ?_
  refine mj_dcmp d_La_law_995 ?_
  refine mj_if_eq (tgt := 1007) d_La_law_996 (by decide) (fun e => absurd (show Op.cmpValue (FP.dcmp x x) .l = 0 by rw [← hv0]; exact e) e2) (fun _ => ?_)
  refine mj_dload d_La_law_999 rfl ?_
  refine mj_dload d_La_law_1001 rfl ?_
  refine mj_dcmp d_La_law_1003 ?_
  exact mj_if_ne (tgt := 1009) d_La_law_1004 (by decide) (fun _ => fin) (fun e => absurd e e2)
