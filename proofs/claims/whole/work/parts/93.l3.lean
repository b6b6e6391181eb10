section L3
variable {p : Program} {l : Launch} {e : Env} {R : Room} {s : State} {m : MethodId} {args : Array Value} {below : List Frame} {meth : Method} {c : Code} {Q : State → Prop} {b0 kc ks : Nat} {G : zG} {h : zH} {a : Nat} {cd : Int}
variable {b L : Nat} {xs : Nat → Int32} {i : Int}
set_option maxHeartbeats 4000000 in
set_option maxRecDepth 100000 in
theorem lc_curve (KK : lwK p s m args c b0 G b L xs) (hR : 10 ≤ R.frames ∧ 450 ≤ R.locals ∧ kc ≤ R.cells ∧ ks ≤ R.slots) (h0 : 0 ≤ i) (hi : i + 10 ≤ L) {S : xS} {T : mT} (hI : LI S T) (kk : ∀ (S' : xS) (T' : mT), LI S' T' → zW p l e R s m args below meth c 4 b0 G kc ks Q (hx G (hm G h (a + 197) 0 T') a S') 690 [(3, .int (jI i)), (2, .ref (a + 197)), (1, .ref a), (0, .ref b)] []) : zW p l e R s m args below meth c 4 b0 G kc ks Q (hx G (hm G h (a + 197) 0 T) a S) 96 [(3, .int (jI i)), (2, .ref (a + 197)), (1, .ref a), (0, .ref b)] [] := by
  have K := KK.1
  obtain ⟨U, A, pts, hX, hM, hn⟩ := hI
  have hA := hX.2.2.2.2.1
  refine z_aload_n K d_L_96 rfl ?_
  refine z_sc1 KK rfl rfl (by omega) (by omega) d_L_97 d_L_98 d_L_99 d_L_100 d_L_101 ?_
  refine z_sc1 KK rfl rfl (by omega) (by omega) d_L_102 d_L_103 d_L_104 d_L_105 d_L_106 ?_
  refine z_sc1 KK rfl rfl (by omega) (by omega) d_L_107 d_L_108 d_L_109 d_L_110 d_L_111 ?_
  refine z_sc1 KK rfl rfl (by omega) (by omega) d_L_112 d_L_113 d_L_114 d_L_115 d_L_116 ?_
  refine z_sc1 KK rfl rfl (by omega) (by omega) d_L_117 d_L_118 d_L_119 d_L_120 d_L_121 ?_
  refine z_callV (ci := 8) (As := [.int (jI (scI xs (i + 1))), .int (jI (scI xs (i + 2))), .int (jI (scI xs (i + 3))), .int (jI (scI xs (i + 4))), .int (jI (scI xs (i + 5)))]) K (r_X_curve l G b0 (hm G h (a + 197) 0 T) a S hX (scI_i _ _) (scI_i _ _) (scI_i _ _) (scI_i _ _) (scI_i _ _)) ca_L_13 im_X_curve se_X_curve rfl (by decide) hx_X rfl rfl (by omega) (Nat.le_of_ble_eq_true rfl) d_L_122 (fun r h1 hp => ?_)
  obtain ⟨S1, rfl, qx⟩ := hp
  obtain ⟨v, rfl⟩ := rv_curve qx
  refine z_aload_n K d_L_125 rfl ?_
  refine z_sc1 KK rfl rfl (by omega) (by omega) d_L_126 d_L_127 d_L_128 d_L_129 d_L_130 ?_
  refine z_sc1 KK rfl rfl (by omega) (by omega) d_L_131 d_L_132 d_L_133 d_L_134 d_L_135 ?_
  refine z_sc1 KK rfl rfl (by omega) (by omega) d_L_136 d_L_137 d_L_138 d_L_139 d_L_140 ?_
  refine z_sc1 KK rfl rfl (by omega) (by omega) d_L_141 d_L_142 d_L_143 d_L_144 d_L_145 ?_
  refine z_sc1 KK rfl rfl (by omega) (by omega) d_L_146 d_L_147 d_L_148 d_L_149 d_L_150 ?_
  refine z_hp (hxm (Nat.le_refl _)) ?_
  refine z_callV (ci := 0) (As := [.int (jI (scI xs (i + 1))), .int (jI (scI xs (i + 2))), .int (jI (scI xs (i + 3))), .int (jI (scI xs (i + 4))), .int (jI (scI xs (i + 5)))]) K (r_M_curve l G b0 (hx G h a S1) (a + 197) T hM (scI_i _ _) (scI_i _ _) (scI_i _ _) (scI_i _ _) (scI_i _ _)) ca_L_17 im_M_curve se_M_curve rfl (by decide) hm_0 rfl rfl (by omega) (Nat.le_of_ble_eq_true rfl) d_L_151 (fun o h2 hp2 => ?_)
  obtain ⟨T1, rfl, qm⟩ := hp2
  obtain ⟨e1, hI1⟩ := ag_curve hX hM hn qx qm
  subst e1
  refine z_icmp_eq (tgt := 690) K d_L_154 (by decide) (fun _ => ?_) (fun q => absurd rfl q)
  refine z_hp (hxm (Nat.le_refl _)).symm ?_
  exact kk S1 T1 hI1
set_option maxHeartbeats 4000000 in
set_option maxRecDepth 100000 in
theorem lc_none (KK : lwK p s m args c b0 G b L xs) (hR : 10 ≤ R.frames ∧ 450 ≤ R.locals ∧ kc ≤ R.cells ∧ ks ≤ R.slots) (h0 : 0 ≤ i) (hi : i + 10 ≤ L) {S : xS} {T : mT} (hI : LI S T) (kk : ∀ (S' : xS) (T' : mT), LI S' T' → zW p l e R s m args below meth c 4 b0 G kc ks Q (hx G (hm G h (a + 197) 0 T') a S') 690 [(3, .int (jI i)), (2, .ref (a + 197)), (1, .ref a), (0, .ref b)] []) : zW p l e R s m args below meth c 4 b0 G kc ks Q (hx G (hm G h (a + 197) 0 T) a S) 159 [(3, .int (jI i)), (2, .ref (a + 197)), (1, .ref a), (0, .ref b)] [] := by
  have K := KK.1
  obtain ⟨U, A, pts, hX, hM, hn⟩ := hI
  have hA := hX.2.2.2.2.1
  refine z_aload_n K d_L_159 rfl ?_
  refine z_sc1 KK rfl rfl (by omega) (by omega) d_L_160 d_L_161 d_L_162 d_L_163 d_L_164 ?_
  refine z_callV (ci := 8) (As := [.int (jI (scI xs (i + 1)))]) K (r_X_none l G b0 (hm G h (a + 197) 0 T) a S hX (scI_i _ _)) ca_L_18 im_X_none se_X_none rfl (by decide) hx_X rfl rfl (by omega) (Nat.le_of_ble_eq_true rfl) d_L_165 (fun r h1 hp => ?_)
  obtain ⟨S1, rfl, qx⟩ := hp
  obtain ⟨v, rfl⟩ := rv_none qx
  refine z_aload_n K d_L_168 rfl ?_
  refine z_sc1 KK rfl rfl (by omega) (by omega) d_L_169 d_L_170 d_L_171 d_L_172 d_L_173 ?_
  refine z_hp (hxm (Nat.le_refl _)) ?_
  refine z_callV (ci := 0) (As := [.int (jI (scI xs (i + 1)))]) K (r_M_none l G b0 (hx G h a S1) (a + 197) T hM (scI_i _ _)) ca_L_22 im_M_none se_M_none rfl (by decide) hm_0 rfl rfl (by omega) (Nat.le_of_ble_eq_true rfl) d_L_174 (fun o h2 hp2 => ?_)
  obtain ⟨T1, rfl, qm⟩ := hp2
  obtain ⟨e1, hI1⟩ := ag_none hX hM hn qx qm
  subst e1
  refine z_icmp_eq (tgt := 690) K d_L_177 (by decide) (fun _ => ?_) (fun q => absurd rfl q)
  refine z_hp (hxm (Nat.le_refl _)).symm ?_
  exact kk S1 T1 hI1
set_option maxHeartbeats 4000000 in
set_option maxRecDepth 100000 in
theorem lc_point (KK : lwK p s m args c b0 G b L xs) (hR : 10 ≤ R.frames ∧ 450 ≤ R.locals ∧ kc ≤ R.cells ∧ ks ≤ R.slots) (h0 : 0 ≤ i) (hi : i + 10 ≤ L) {S : xS} {T : mT} (hI : LI S T) (kk : ∀ (S' : xS) (T' : mT), LI S' T' → zW p l e R s m args below meth c 4 b0 G kc ks Q (hx G (hm G h (a + 197) 0 T') a S') 690 [(3, .int (jI i)), (2, .ref (a + 197)), (1, .ref a), (0, .ref b)] []) : zW p l e R s m args below meth c 4 b0 G kc ks Q (hx G (hm G h (a + 197) 0 T) a S) 182 [(3, .int (jI i)), (2, .ref (a + 197)), (1, .ref a), (0, .ref b)] [] := by
  have K := KK.1
  obtain ⟨U, A, pts, hX, hM, hn⟩ := hI
  have hA := hX.2.2.2.2.1
  refine z_aload_n K d_L_182 rfl ?_
  refine z_sc1 KK rfl rfl (by omega) (by omega) d_L_183 d_L_184 d_L_185 d_L_186 d_L_187 ?_
  refine z_sc1 KK rfl rfl (by omega) (by omega) d_L_188 d_L_189 d_L_190 d_L_191 d_L_192 ?_
  refine z_i2l KK.1 d_L_193 ?_
  refine z_bipush (v := jI 32) KK.1 d_L_194 rfl ?_
  refine z_lshl KK.1 d_L_196 ?_
  refine z_sc1 KK rfl rfl (by omega) (by omega) d_L_197 d_L_198 d_L_199 d_L_200 d_L_201 ?_
  refine z_lg0 KK d_L_202 d_L_203 d_L_206 d_L_207 ?_
  refine z_sc1 KK rfl rfl (by omega) (by omega) d_L_208 d_L_209 d_L_210 d_L_211 d_L_212 ?_
  refine z_i2l KK.1 d_L_213 ?_
  refine z_bipush (v := jI 32) KK.1 d_L_214 rfl ?_
  refine z_lshl KK.1 d_L_216 ?_
  refine z_sc1 KK rfl rfl (by omega) (by omega) d_L_217 d_L_218 d_L_219 d_L_220 d_L_221 ?_
  refine z_lg0 KK d_L_222 d_L_223 d_L_226 d_L_227 ?_
  refine z_sc2 KK rfl rfl (by omega) (by omega) rfl d_L_228 d_L_229 d_L_230 d_L_232 d_L_233 ?_
  refine z_i2l KK.1 d_L_234 ?_
  refine z_bipush (v := jI 32) KK.1 d_L_235 rfl ?_
  refine z_lshl KK.1 d_L_237 ?_
  refine z_sc2 KK rfl rfl (by omega) (by omega) rfl d_L_238 d_L_239 d_L_240 d_L_242 d_L_243 ?_
  refine z_lg0 KK d_L_244 d_L_245 d_L_248 d_L_249 ?_
  refine z_sc2 KK rfl rfl (by omega) (by omega) rfl d_L_250 d_L_251 d_L_252 d_L_254 d_L_255 ?_
  refine z_i2l KK.1 d_L_256 ?_
  refine z_bipush (v := jI 32) KK.1 d_L_257 rfl ?_
  refine z_lshl KK.1 d_L_259 ?_
  refine z_sc2 KK rfl rfl (by omega) (by omega) rfl d_L_260 d_L_261 d_L_262 d_L_264 d_L_265 ?_
  refine z_lg0 KK d_L_266 d_L_267 d_L_270 d_L_271 ?_
  refine z_callV (ci := 8) (As := [.int (jI (scI xs (i + 1))), .long (kI (lgI xs (i + 2) (i + 3))), .long (kI (lgI xs (i + 4) (i + 5))), .long (kI (lgI xs (i + 6) (i + 7))), .long (kI (lgI xs (i + 8) (i + 9)))]) K (r_X_point l G b0 (hm G h (a + 197) 0 T) a S hX (scI_i _ _) (lgI_i _ _ _) (lgI_i _ _ _) (lgI_i _ _ _) (lgI_i _ _ _)) ca_L_25 im_X_point se_X_point rfl (by decide) hx_X rfl rfl (by omega) (Nat.le_of_ble_eq_true rfl) d_L_272 (fun r h1 hp => ?_)
  obtain ⟨S1, rfl, qx⟩ := hp
  obtain ⟨v, rfl⟩ := rv_point qx
  refine z_aload_n K d_L_275 rfl ?_
  refine z_sc1 KK rfl rfl (by omega) (by omega) d_L_276 d_L_277 d_L_278 d_L_279 d_L_280 ?_
  refine z_sc1 KK rfl rfl (by omega) (by omega) d_L_281 d_L_282 d_L_283 d_L_284 d_L_285 ?_
  refine z_i2l KK.1 d_L_286 ?_
  refine z_bipush (v := jI 32) KK.1 d_L_287 rfl ?_
  refine z_lshl KK.1 d_L_289 ?_
  refine z_sc1 KK rfl rfl (by omega) (by omega) d_L_290 d_L_291 d_L_292 d_L_293 d_L_294 ?_
  refine z_lg0 KK d_L_295 d_L_296 d_L_299 d_L_300 ?_
  refine z_sc1 KK rfl rfl (by omega) (by omega) d_L_301 d_L_302 d_L_303 d_L_304 d_L_305 ?_
  refine z_i2l KK.1 d_L_306 ?_
  refine z_bipush (v := jI 32) KK.1 d_L_307 rfl ?_
  refine z_lshl KK.1 d_L_309 ?_
  refine z_sc1 KK rfl rfl (by omega) (by omega) d_L_310 d_L_311 d_L_312 d_L_313 d_L_314 ?_
  refine z_lg0 KK d_L_315 d_L_316 d_L_319 d_L_320 ?_
  refine z_sc2 KK rfl rfl (by omega) (by omega) rfl d_L_321 d_L_322 d_L_323 d_L_325 d_L_326 ?_
  refine z_i2l KK.1 d_L_327 ?_
  refine z_bipush (v := jI 32) KK.1 d_L_328 rfl ?_
  refine z_lshl KK.1 d_L_330 ?_
  refine z_sc2 KK rfl rfl (by omega) (by omega) rfl d_L_331 d_L_332 d_L_333 d_L_335 d_L_336 ?_
  refine z_lg0 KK d_L_337 d_L_338 d_L_341 d_L_342 ?_
  refine z_sc2 KK rfl rfl (by omega) (by omega) rfl d_L_343 d_L_344 d_L_345 d_L_347 d_L_348 ?_
  refine z_i2l KK.1 d_L_349 ?_
  refine z_bipush (v := jI 32) KK.1 d_L_350 rfl ?_
  refine z_lshl KK.1 d_L_352 ?_
  refine z_sc2 KK rfl rfl (by omega) (by omega) rfl d_L_353 d_L_354 d_L_355 d_L_357 d_L_358 ?_
  refine z_lg0 KK d_L_359 d_L_360 d_L_363 d_L_364 ?_
  refine z_hp (hxm (Nat.le_refl _)) ?_
  refine z_callV (ci := 0) (As := [.int (jI (scI xs (i + 1))), .long (kI (lgI xs (i + 2) (i + 3))), .long (kI (lgI xs (i + 4) (i + 5))), .long (kI (lgI xs (i + 6) (i + 7))), .long (kI (lgI xs (i + 8) (i + 9)))]) K (r_M_point l G b0 (hx G h a S1) (a + 197) T hM hA.cpA (scI_i _ _) (lgI_i _ _ _) (lgI_i _ _ _) (lgI_i _ _ _) (lgI_i _ _ _)) ca_L_29 im_M_point se_M_point rfl (by decide) hm_0 rfl rfl (by omega) (Nat.le_of_ble_eq_true rfl) d_L_365 (fun o h2 hp2 => ?_)
  obtain ⟨T1, rfl, qm⟩ := hp2
  obtain ⟨e1, hI1⟩ := ag_point hX hM hn qx qm
  subst e1
  refine z_icmp_eq (tgt := 690) K d_L_368 (by decide) (fun _ => ?_) (fun q => absurd rfl q)
  refine z_hp (hxm (Nat.le_refl _)).symm ?_
  exact kk S1 T1 hI1
set_option maxHeartbeats 4000000 in
set_option maxRecDepth 100000 in
theorem lc_sum (KK : lwK p s m args c b0 G b L xs) (hR : 10 ≤ R.frames ∧ 450 ≤ R.locals ∧ kc ≤ R.cells ∧ ks ≤ R.slots) (h0 : 0 ≤ i) (hi : i + 10 ≤ L) {S : xS} {T : mT} (hI : LI S T) (kk : ∀ (S' : xS) (T' : mT), LI S' T' → zW p l e R s m args below meth c 4 b0 G kc ks Q (hx G (hm G h (a + 197) 0 T') a S') 690 [(3, .int (jI i)), (2, .ref (a + 197)), (1, .ref a), (0, .ref b)] []) : zW p l e R s m args below meth c 4 b0 G kc ks Q (hx G (hm G h (a + 197) 0 T) a S) 373 [(3, .int (jI i)), (2, .ref (a + 197)), (1, .ref a), (0, .ref b)] [] := by
  have K := KK.1
  obtain ⟨U, A, pts, hX, hM, hn⟩ := hI
  have hA := hX.2.2.2.2.1
  refine z_aload_n K d_L_373 rfl ?_
  refine z_sc1 KK rfl rfl (by omega) (by omega) d_L_374 d_L_375 d_L_376 d_L_377 d_L_378 ?_
  refine z_sc1 KK rfl rfl (by omega) (by omega) d_L_379 d_L_380 d_L_381 d_L_382 d_L_383 ?_
  refine z_sc1 KK rfl rfl (by omega) (by omega) d_L_384 d_L_385 d_L_386 d_L_387 d_L_388 ?_
  refine z_callV (ci := 8) (As := [.int (jI (scI xs (i + 1))), .int (jI (scI xs (i + 2))), .int (jI (scI xs (i + 3)))]) K (r_X_sum l G b0 (hm G h (a + 197) 0 T) a S hX (scI_i _ _) (scI_i _ _) (scI_i _ _)) ca_L_30 im_X_sum se_X_sum rfl (by decide) hx_X rfl rfl (by omega) (Nat.le_of_ble_eq_true rfl) d_L_389 (fun r h1 hp => ?_)
  obtain ⟨S1, rfl, qx⟩ := hp
  obtain ⟨v, rfl⟩ := rv_sum qx
  refine z_aload_n K d_L_392 rfl ?_
  refine z_sc1 KK rfl rfl (by omega) (by omega) d_L_393 d_L_394 d_L_395 d_L_396 d_L_397 ?_
  refine z_sc1 KK rfl rfl (by omega) (by omega) d_L_398 d_L_399 d_L_400 d_L_401 d_L_402 ?_
  refine z_sc1 KK rfl rfl (by omega) (by omega) d_L_403 d_L_404 d_L_405 d_L_406 d_L_407 ?_
  refine z_hp (hxm (Nat.le_refl _)) ?_
  refine z_callV (ci := 0) (As := [.int (jI (scI xs (i + 1))), .int (jI (scI xs (i + 2))), .int (jI (scI xs (i + 3)))]) K (r_M_sum l G b0 (hx G h a S1) (a + 197) T hM hA.cpA (hX.cp hn) (scI_i _ _) (scI_i _ _) (scI_i _ _) (fun c0 c1 => hX.okS c0 c1)) ca_L_34 im_M_sum se_M_sum rfl (by decide) hm_0 rfl rfl (by omega) (Nat.le_of_ble_eq_true rfl) d_L_408 (fun o h2 hp2 => ?_)
  obtain ⟨T1, rfl, qm⟩ := hp2
  obtain ⟨e1, hI1⟩ := ag_sum hX hM hn qx qm
  subst e1
  refine z_icmp_eq (tgt := 690) K d_L_411 (by decide) (fun _ => ?_) (fun q => absurd rfl q)
  refine z_hp (hxm (Nat.le_refl _)).symm ?_
  exact kk S1 T1 hI1
set_option maxHeartbeats 4000000 in
set_option maxRecDepth 100000 in
theorem lc_less (KK : lwK p s m args c b0 G b L xs) (hR : 10 ≤ R.frames ∧ 450 ≤ R.locals ∧ kc ≤ R.cells ∧ ks ≤ R.slots) (h0 : 0 ≤ i) (hi : i + 10 ≤ L) {S : xS} {T : mT} (hI : LI S T) (kk : ∀ (S' : xS) (T' : mT), LI S' T' → zW p l e R s m args below meth c 4 b0 G kc ks Q (hx G (hm G h (a + 197) 0 T') a S') 690 [(3, .int (jI i)), (2, .ref (a + 197)), (1, .ref a), (0, .ref b)] []) : zW p l e R s m args below meth c 4 b0 G kc ks Q (hx G (hm G h (a + 197) 0 T) a S) 416 [(3, .int (jI i)), (2, .ref (a + 197)), (1, .ref a), (0, .ref b)] [] := by
  have K := KK.1
  obtain ⟨U, A, pts, hX, hM, hn⟩ := hI
  have hA := hX.2.2.2.2.1
  refine z_aload_n K d_L_416 rfl ?_
  refine z_sc1 KK rfl rfl (by omega) (by omega) d_L_417 d_L_418 d_L_419 d_L_420 d_L_421 ?_
  refine z_sc1 KK rfl rfl (by omega) (by omega) d_L_422 d_L_423 d_L_424 d_L_425 d_L_426 ?_
  refine z_sc1 KK rfl rfl (by omega) (by omega) d_L_427 d_L_428 d_L_429 d_L_430 d_L_431 ?_
  refine z_callV (ci := 8) (As := [.int (jI (scI xs (i + 1))), .int (jI (scI xs (i + 2))), .int (jI (scI xs (i + 3)))]) K (r_X_less l G b0 (hm G h (a + 197) 0 T) a S hX (scI_i _ _) (scI_i _ _) (scI_i _ _)) ca_L_35 im_X_less se_X_less rfl (by decide) hx_X rfl rfl (by omega) (Nat.le_of_ble_eq_true rfl) d_L_432 (fun r h1 hp => ?_)
  obtain ⟨S1, rfl, qx⟩ := hp
  obtain ⟨v, rfl⟩ := rv_less qx
  refine z_aload_n K d_L_435 rfl ?_
  refine z_sc1 KK rfl rfl (by omega) (by omega) d_L_436 d_L_437 d_L_438 d_L_439 d_L_440 ?_
  refine z_sc1 KK rfl rfl (by omega) (by omega) d_L_441 d_L_442 d_L_443 d_L_444 d_L_445 ?_
  refine z_sc1 KK rfl rfl (by omega) (by omega) d_L_446 d_L_447 d_L_448 d_L_449 d_L_450 ?_
  refine z_hp (hxm (Nat.le_refl _)) ?_
  refine z_callV (ci := 0) (As := [.int (jI (scI xs (i + 1))), .int (jI (scI xs (i + 2))), .int (jI (scI xs (i + 3)))]) K (r_M_less l G b0 (hx G h a S1) (a + 197) T hM hA.cpA (hX.cp hn) (scI_i _ _) (scI_i _ _) (scI_i _ _) (fun c0 c1 => hX.okL c0 c1)) ca_L_38 im_M_less se_M_less rfl (by decide) hm_0 rfl rfl (by omega) (Nat.le_of_ble_eq_true rfl) d_L_451 (fun o h2 hp2 => ?_)
  obtain ⟨T1, rfl, qm⟩ := hp2
  obtain ⟨e1, hI1⟩ := ag_less hX hM hn qx qm
  subst e1
  refine z_icmp_eq (tgt := 690) K d_L_454 (by decide) (fun _ => ?_) (fun q => absurd rfl q)
  refine z_hp (hxm (Nat.le_refl _)).symm ?_
  exact kk S1 T1 hI1
set_option maxHeartbeats 4000000 in
set_option maxRecDepth 100000 in
theorem lc_times (KK : lwK p s m args c b0 G b L xs) (hR : 10 ≤ R.frames ∧ 450 ≤ R.locals ∧ kc ≤ R.cells ∧ ks ≤ R.slots) (h0 : 0 ≤ i) (hi : i + 10 ≤ L) {S : xS} {T : mT} (hI : LI S T) (kk : ∀ (S' : xS) (T' : mT), LI S' T' → zW p l e R s m args below meth c 4 b0 G kc ks Q (hx G (hm G h (a + 197) 0 T') a S') 690 [(3, .int (jI i)), (2, .ref (a + 197)), (1, .ref a), (0, .ref b)] []) : zW p l e R s m args below meth c 4 b0 G kc ks Q (hx G (hm G h (a + 197) 0 T) a S) 459 [(3, .int (jI i)), (2, .ref (a + 197)), (1, .ref a), (0, .ref b)] [] := by
  have K := KK.1
  obtain ⟨U, A, pts, hX, hM, hn⟩ := hI
  have hA := hX.2.2.2.2.1
  refine z_aload_n K d_L_459 rfl ?_
  refine z_sc1 KK rfl rfl (by omega) (by omega) d_L_460 d_L_461 d_L_462 d_L_463 d_L_464 ?_
  refine z_sc1 KK rfl rfl (by omega) (by omega) d_L_465 d_L_466 d_L_467 d_L_468 d_L_469 ?_
  refine z_sc1 KK rfl rfl (by omega) (by omega) d_L_470 d_L_471 d_L_472 d_L_473 d_L_474 ?_
  refine z_callV (ci := 8) (As := [.int (jI (scI xs (i + 1))), .int (jI (scI xs (i + 2))), .int (jI (scI xs (i + 3)))]) K (r_X_times l G b0 (hm G h (a + 197) 0 T) a S hX (scI_i _ _) (scI_i _ _) (scI_i _ _)) ca_L_39 im_X_times se_X_times rfl (by decide) hx_X rfl rfl (by omega) (Nat.le_of_ble_eq_true rfl) d_L_475 (fun r h1 hp => ?_)
  obtain ⟨S1, rfl, qx⟩ := hp
  obtain ⟨v, rfl⟩ := rv_times qx
  refine z_aload_n K d_L_478 rfl ?_
  refine z_sc1 KK rfl rfl (by omega) (by omega) d_L_479 d_L_480 d_L_481 d_L_482 d_L_483 ?_
  refine z_sc1 KK rfl rfl (by omega) (by omega) d_L_484 d_L_485 d_L_486 d_L_487 d_L_488 ?_
  refine z_sc1 KK rfl rfl (by omega) (by omega) d_L_489 d_L_490 d_L_491 d_L_492 d_L_493 ?_
  refine z_hp (hxm (Nat.le_refl _)) ?_
  refine z_callV (ci := 0) (As := [.int (jI (scI xs (i + 1))), .int (jI (scI xs (i + 2))), .int (jI (scI xs (i + 3)))]) K (r_M_times l G b0 (hx G h a S1) (a + 197) T hM hA.cpA (hX.cp hn) (scI_i _ _) (scI_i _ _) (scI_i _ _) (fun c0 _ => hX.okT c0 _)) ca_L_42 im_M_times se_M_times rfl (by decide) hm_0 rfl rfl (by omega) (Nat.le_of_ble_eq_true rfl) d_L_494 (fun o h2 hp2 => ?_)
  obtain ⟨T1, rfl, qm⟩ := hp2
  obtain ⟨e1, hI1⟩ := ag_times hX hM hn qx qm
  subst e1
  refine z_icmp_eq (tgt := 690) K d_L_497 (by decide) (fun _ => ?_) (fun q => absurd rfl q)
  refine z_hp (hxm (Nat.le_refl _)).symm ?_
  exact kk S1 T1 hI1
set_option maxHeartbeats 4000000 in
set_option maxRecDepth 100000 in
theorem lc_order (KK : lwK p s m args c b0 G b L xs) (hR : 10 ≤ R.frames ∧ 450 ≤ R.locals ∧ kc ≤ R.cells ∧ ks ≤ R.slots) (h0 : 0 ≤ i) (hi : i + 10 ≤ L) {S : xS} {T : mT} (hI : LI S T) (kk : ∀ (S' : xS) (T' : mT), LI S' T' → zW p l e R s m args below meth c 4 b0 G kc ks Q (hx G (hm G h (a + 197) 0 T') a S') 690 [(3, .int (jI i)), (2, .ref (a + 197)), (1, .ref a), (0, .ref b)] []) : zW p l e R s m args below meth c 4 b0 G kc ks Q (hx G (hm G h (a + 197) 0 T) a S) 502 [(3, .int (jI i)), (2, .ref (a + 197)), (1, .ref a), (0, .ref b)] [] := by
  have K := KK.1
  obtain ⟨U, A, pts, hX, hM, hn⟩ := hI
  have hA := hX.2.2.2.2.1
  refine z_aload_n K d_L_502 rfl ?_
  refine z_sc1 KK rfl rfl (by omega) (by omega) d_L_503 d_L_504 d_L_505 d_L_506 d_L_507 ?_
  refine z_callV (ci := 8) (As := [.int (jI (scI xs (i + 1)))]) K (r_X_order l G b0 (hm G h (a + 197) 0 T) a S hX (scI_i _ _)) ca_L_43 im_X_order se_X_order rfl (by decide) hx_X rfl rfl (by omega) (Nat.le_of_ble_eq_true rfl) d_L_508 (fun r h1 hp => ?_)
  obtain ⟨S1, rfl, qx⟩ := hp
  obtain ⟨v, rfl⟩ := rv_order qx
  refine z_aload_n K d_L_511 rfl ?_
  refine z_sc1 KK rfl rfl (by omega) (by omega) d_L_512 d_L_513 d_L_514 d_L_515 d_L_516 ?_
  refine z_hp (hxm (Nat.le_refl _)) ?_
  refine z_callV (ci := 0) (As := [.int (jI (scI xs (i + 1)))]) K (r_M_order l G b0 (hx G h a S1) (a + 197) T hM hA.cpA (hX.cp hn) (scI_i _ _) (fun c0 => hX.okR c0)) ca_L_47 im_M_order se_M_order rfl (by decide) hm_0 rfl rfl (by omega) (Nat.le_of_ble_eq_true rfl) d_L_517 (fun o h2 hp2 => ?_)
  obtain ⟨T1, rfl, qm⟩ := hp2
  obtain ⟨e1, hI1⟩ := ag_order hX hM hn qx qm
  subst e1
  refine z_icmp_eq (tgt := 690) K d_L_520 (by decide) (fun _ => ?_) (fun q => absurd rfl q)
  refine z_hp (hxm (Nat.le_refl _)).symm ?_
  exact kk S1 T1 hI1
set_option maxHeartbeats 4000000 in
set_option maxRecDepth 100000 in
theorem lc_isNone (KK : lwK p s m args c b0 G b L xs) (hR : 10 ≤ R.frames ∧ 450 ≤ R.locals ∧ kc ≤ R.cells ∧ ks ≤ R.slots) (h0 : 0 ≤ i) (hi : i + 10 ≤ L) {S : xS} {T : mT} (hI : LI S T) (kk : ∀ (S' : xS) (T' : mT), LI S' T' → zW p l e R s m args below meth c 4 b0 G kc ks Q (hx G (hm G h (a + 197) 0 T') a S') 690 [(3, .int (jI i)), (2, .ref (a + 197)), (1, .ref a), (0, .ref b)] []) : zW p l e R s m args below meth c 4 b0 G kc ks Q (hx G (hm G h (a + 197) 0 T) a S) 525 [(3, .int (jI i)), (2, .ref (a + 197)), (1, .ref a), (0, .ref b)] [] := by
  have K := KK.1
  obtain ⟨U, A, pts, hX, hM, hn⟩ := hI
  have hA := hX.2.2.2.2.1
  refine z_aload_n K d_L_525 rfl ?_
  refine z_sc1 KK rfl rfl (by omega) (by omega) d_L_526 d_L_527 d_L_528 d_L_529 d_L_530 ?_
  refine z_callV (ci := 8) (As := [.int (jI (scI xs (i + 1)))]) K (r_X_isNone l G b0 (hm G h (a + 197) 0 T) a S hX (scI_i _ _)) ca_L_48 im_X_isNone se_X_isNone rfl (by decide) hx_X rfl rfl (by omega) (Nat.le_of_ble_eq_true rfl) d_L_531 (fun r h1 hp => ?_)
  obtain ⟨S1, rfl, qx⟩ := hp
  obtain ⟨v, rfl⟩ := rv_isNone qx
  refine z_aload_n K d_L_534 rfl ?_
  refine z_sc1 KK rfl rfl (by omega) (by omega) d_L_535 d_L_536 d_L_537 d_L_538 d_L_539 ?_
  refine z_hp (hxm (Nat.le_refl _)) ?_
  refine z_callV (ci := 0) (As := [.int (jI (scI xs (i + 1)))]) K (r_M_isNone l G b0 (hx G h a S1) (a + 197) T hM (scI_i _ _)) ca_L_51 im_M_isNone se_M_isNone rfl (by decide) hm_0 rfl rfl (by omega) (Nat.le_of_ble_eq_true rfl) d_L_540 (fun o h2 hp2 => ?_)
  obtain ⟨T1, rfl, qm⟩ := hp2
  obtain ⟨e1, hI1⟩ := ag_isNone hX hM hn qx qm
  subst e1
  refine z_icmp_eq (tgt := 690) K d_L_543 (by decide) (fun _ => ?_) (fun q => absurd rfl q)
  refine z_hp (hxm (Nat.le_refl _)).symm ?_
  exact kk S1 T1 hI1
set_option maxHeartbeats 4000000 in
set_option maxRecDepth 100000 in
theorem lc_same (KK : lwK p s m args c b0 G b L xs) (hR : 10 ≤ R.frames ∧ 450 ≤ R.locals ∧ kc ≤ R.cells ∧ ks ≤ R.slots) (h0 : 0 ≤ i) (hi : i + 10 ≤ L) {S : xS} {T : mT} (hI : LI S T) (kk : ∀ (S' : xS) (T' : mT), LI S' T' → zW p l e R s m args below meth c 4 b0 G kc ks Q (hx G (hm G h (a + 197) 0 T') a S') 690 [(3, .int (jI i)), (2, .ref (a + 197)), (1, .ref a), (0, .ref b)] []) : zW p l e R s m args below meth c 4 b0 G kc ks Q (hx G (hm G h (a + 197) 0 T) a S) 548 [(3, .int (jI i)), (2, .ref (a + 197)), (1, .ref a), (0, .ref b)] [] := by
  have K := KK.1
  obtain ⟨U, A, pts, hX, hM, hn⟩ := hI
  have hA := hX.2.2.2.2.1
  refine z_aload_n K d_L_548 rfl ?_
  refine z_sc1 KK rfl rfl (by omega) (by omega) d_L_549 d_L_550 d_L_551 d_L_552 d_L_553 ?_
  refine z_sc1 KK rfl rfl (by omega) (by omega) d_L_554 d_L_555 d_L_556 d_L_557 d_L_558 ?_
  refine z_callV (ci := 8) (As := [.int (jI (scI xs (i + 1))), .int (jI (scI xs (i + 2)))]) K (r_X_same l G b0 (hm G h (a + 197) 0 T) a S hX (scI_i _ _) (scI_i _ _)) ca_L_52 im_X_same se_X_same rfl (by decide) hx_X rfl rfl (by omega) (Nat.le_of_ble_eq_true rfl) d_L_559 (fun r h1 hp => ?_)
  obtain ⟨S1, rfl, qx⟩ := hp
  obtain ⟨v, rfl⟩ := rv_same qx
  refine z_aload_n K d_L_562 rfl ?_
  refine z_sc1 KK rfl rfl (by omega) (by omega) d_L_563 d_L_564 d_L_565 d_L_566 d_L_567 ?_
  refine z_sc1 KK rfl rfl (by omega) (by omega) d_L_568 d_L_569 d_L_570 d_L_571 d_L_572 ?_
  refine z_hp (hxm (Nat.le_refl _)) ?_
  refine z_callV (ci := 0) (As := [.int (jI (scI xs (i + 1))), .int (jI (scI xs (i + 2)))]) K (r_M_same l G b0 (hx G h a S1) (a + 197) T hM (scI_i _ _) (scI_i _ _)) ca_L_56 im_M_same se_M_same rfl (by decide) hm_0 rfl rfl (by omega) (Nat.le_of_ble_eq_true rfl) d_L_573 (fun o h2 hp2 => ?_)
  obtain ⟨T1, rfl, qm⟩ := hp2
  obtain ⟨e1, hI1⟩ := ag_same hX hM hn qx qm
  subst e1
  refine z_icmp_eq (tgt := 690) K d_L_576 (by decide) (fun _ => ?_) (fun q => absurd rfl q)
  refine z_hp (hxm (Nat.le_refl _)).symm ?_
  exact kk S1 T1 hI1
set_option maxHeartbeats 4000000 in
set_option maxRecDepth 100000 in
theorem lc_digits (KK : lwK p s m args c b0 G b L xs) (hR : 10 ≤ R.frames ∧ 450 ≤ R.locals ∧ kc ≤ R.cells ∧ ks ≤ R.slots) (h0 : 0 ≤ i) (hi : i + 10 ≤ L) {S : xS} {T : mT} (hI : LI S T) (kk : ∀ (S' : xS) (T' : mT), LI S' T' → zW p l e R s m args below meth c 4 b0 G kc ks Q (hx G (hm G h (a + 197) 0 T') a S') 690 [(3, .int (jI i)), (2, .ref (a + 197)), (1, .ref a), (0, .ref b)] []) : zW p l e R s m args below meth c 4 b0 G kc ks Q (hx G (hm G h (a + 197) 0 T) a S) 581 [(3, .int (jI i)), (2, .ref (a + 197)), (1, .ref a), (0, .ref b)] [] := by
  have K := KK.1
  obtain ⟨U, A, pts, hX, hM, hn⟩ := hI
  have hA := hX.2.2.2.2.1
  refine z_aload_n K d_L_581 rfl ?_
  refine z_sc1 KK rfl rfl (by omega) (by omega) d_L_582 d_L_583 d_L_584 d_L_585 d_L_586 ?_
  refine z_sc1 KK rfl rfl (by omega) (by omega) d_L_587 d_L_588 d_L_589 d_L_590 d_L_591 ?_
  refine z_callV (ci := 8) (As := [.int (jI (scI xs (i + 1))), .int (jI (scI xs (i + 2)))]) K (r_X_digits l G b0 (hm G h (a + 197) 0 T) a S hX (scI_i _ _) (scI_i _ _)) ca_L_57 im_X_digits se_X_digits rfl (by decide) hx_X rfl rfl (by omega) (Nat.le_of_ble_eq_true rfl) d_L_592 (fun r h1 hp => ?_)
  obtain ⟨S1, rfl, qx⟩ := hp
  obtain ⟨v, rfl⟩ := rv_digits qx
  refine z_aload_n K d_L_595 rfl ?_
  refine z_sc1 KK rfl rfl (by omega) (by omega) d_L_596 d_L_597 d_L_598 d_L_599 d_L_600 ?_
  refine z_sc1 KK rfl rfl (by omega) (by omega) d_L_601 d_L_602 d_L_603 d_L_604 d_L_605 ?_
  refine z_hp (hxm (Nat.le_refl _)) ?_
  refine z_callV (ci := 0) (As := [.int (jI (scI xs (i + 1))), .int (jI (scI xs (i + 2)))]) K (r_M_digits l G b0 (hx G h a S1) (a + 197) T hM (hX.cp hn) (scI_i _ _) (scI_i _ _)) ca_L_61 im_M_digits se_M_digits rfl (by decide) hm_0 rfl rfl (by omega) (Nat.le_of_ble_eq_true rfl) d_L_606 (fun o h2 hp2 => ?_)
  obtain ⟨T1, rfl, qm⟩ := hp2
  obtain ⟨e1, hI1⟩ := ag_digits hX hM hn qx qm
  subst e1
  refine z_icmp_eq (tgt := 690) K d_L_609 (by decide) (fun _ => ?_) (fun q => absurd rfl q)
  refine z_hp (hxm (Nat.le_refl _)).symm ?_
  exact kk S1 T1 hI1
set_option maxHeartbeats 4000000 in
set_option maxRecDepth 100000 in
theorem lc_digitAt (KK : lwK p s m args c b0 G b L xs) (hR : 10 ≤ R.frames ∧ 450 ≤ R.locals ∧ kc ≤ R.cells ∧ ks ≤ R.slots) (h0 : 0 ≤ i) (hi : i + 10 ≤ L) {S : xS} {T : mT} (hI : LI S T) (kk : ∀ (S' : xS) (T' : mT), LI S' T' → zW p l e R s m args below meth c 4 b0 G kc ks Q (hx G (hm G h (a + 197) 0 T') a S') 690 [(3, .int (jI i)), (2, .ref (a + 197)), (1, .ref a), (0, .ref b)] []) : zW p l e R s m args below meth c 4 b0 G kc ks Q (hx G (hm G h (a + 197) 0 T) a S) 614 [(3, .int (jI i)), (2, .ref (a + 197)), (1, .ref a), (0, .ref b)] [] := by
  have K := KK.1
  obtain ⟨U, A, pts, hX, hM, hn⟩ := hI
  have hA := hX.2.2.2.2.1
  refine z_aload_n K d_L_614 rfl ?_
  refine z_sc1 KK rfl rfl (by omega) (by omega) d_L_615 d_L_616 d_L_617 d_L_618 d_L_619 ?_
  refine z_sc1 KK rfl rfl (by omega) (by omega) d_L_620 d_L_621 d_L_622 d_L_623 d_L_624 ?_
  refine z_sc1 KK rfl rfl (by omega) (by omega) d_L_625 d_L_626 d_L_627 d_L_628 d_L_629 ?_
  refine z_callV (ci := 8) (As := [.int (jI (scI xs (i + 1))), .int (jI (scI xs (i + 2))), .int (jI (scI xs (i + 3)))]) K (r_X_digitAt l G b0 (hm G h (a + 197) 0 T) a S hX (scI_i _ _) (scI_i _ _) (scI_i _ _)) ca_L_62 im_X_digitAt se_X_digitAt rfl (by decide) hx_X rfl rfl (by omega) (Nat.le_of_ble_eq_true rfl) d_L_630 (fun r h1 hp => ?_)
  obtain ⟨S1, rfl, qx⟩ := hp
  obtain ⟨v, rfl⟩ := rv_digitAt qx
  refine z_aload_n K d_L_633 rfl ?_
  refine z_sc1 KK rfl rfl (by omega) (by omega) d_L_634 d_L_635 d_L_636 d_L_637 d_L_638 ?_
  refine z_sc1 KK rfl rfl (by omega) (by omega) d_L_639 d_L_640 d_L_641 d_L_642 d_L_643 ?_
  refine z_sc1 KK rfl rfl (by omega) (by omega) d_L_644 d_L_645 d_L_646 d_L_647 d_L_648 ?_
  refine z_hp (hxm (Nat.le_refl _)) ?_
  refine z_callV (ci := 0) (As := [.int (jI (scI xs (i + 1))), .int (jI (scI xs (i + 2))), .int (jI (scI xs (i + 3)))]) K (r_M_digitAt l G b0 (hx G h a S1) (a + 197) T hM (hX.cp hn) (scI_i _ _) (scI_i _ _) (scI_i _ _)) ca_L_65 im_M_digitAt se_M_digitAt rfl (by decide) hm_0 rfl rfl (by omega) (Nat.le_of_ble_eq_true rfl) d_L_649 (fun o h2 hp2 => ?_)
  obtain ⟨T1, rfl, qm⟩ := hp2
  obtain ⟨e1, hI1⟩ := ag_digitAt hX hM hn qx qm
  subst e1
  refine z_icmp_eq (tgt := 690) K d_L_652 (by decide) (fun _ => ?_) (fun q => absurd rfl q)
  refine z_hp (hxm (Nat.le_refl _)).symm ?_
  exact kk S1 T1 hI1
set_option maxHeartbeats 4000000 in
set_option maxRecDepth 100000 in
theorem lc_sign (KK : lwK p s m args c b0 G b L xs) (hR : 10 ≤ R.frames ∧ 450 ≤ R.locals ∧ kc ≤ R.cells ∧ ks ≤ R.slots) (h0 : 0 ≤ i) (hi : i + 10 ≤ L) {S : xS} {T : mT} (hI : LI S T) (kk : ∀ (S' : xS) (T' : mT), LI S' T' → zW p l e R s m args below meth c 4 b0 G kc ks Q (hx G (hm G h (a + 197) 0 T') a S') 690 [(3, .int (jI i)), (2, .ref (a + 197)), (1, .ref a), (0, .ref b)] []) : zW p l e R s m args below meth c 4 b0 G kc ks Q (hx G (hm G h (a + 197) 0 T) a S) 657 [(3, .int (jI i)), (2, .ref (a + 197)), (1, .ref a), (0, .ref b)] [] := by
  have K := KK.1
  obtain ⟨U, A, pts, hX, hM, hn⟩ := hI
  have hA := hX.2.2.2.2.1
  refine z_aload_n K d_L_657 rfl ?_
  refine z_sc1 KK rfl rfl (by omega) (by omega) d_L_658 d_L_659 d_L_660 d_L_661 d_L_662 ?_
  refine z_sc1 KK rfl rfl (by omega) (by omega) d_L_663 d_L_664 d_L_665 d_L_666 d_L_667 ?_
  refine z_callV (ci := 8) (As := [.int (jI (scI xs (i + 1))), .int (jI (scI xs (i + 2)))]) K (r_X_sign l G b0 (hm G h (a + 197) 0 T) a S hX (scI_i _ _) (scI_i _ _)) ca_L_66 im_X_sign se_X_sign rfl (by decide) hx_X rfl rfl (by omega) (Nat.le_of_ble_eq_true rfl) d_L_668 (fun r h1 hp => ?_)
  obtain ⟨S1, rfl, qx⟩ := hp
  obtain ⟨v, rfl⟩ := rv_sign qx
  refine z_aload_n K d_L_671 rfl ?_
  refine z_sc1 KK rfl rfl (by omega) (by omega) d_L_672 d_L_673 d_L_674 d_L_675 d_L_676 ?_
  refine z_sc1 KK rfl rfl (by omega) (by omega) d_L_677 d_L_678 d_L_679 d_L_680 d_L_681 ?_
  refine z_hp (hxm (Nat.le_refl _)) ?_
  refine z_callV (ci := 0) (As := [.int (jI (scI xs (i + 1))), .int (jI (scI xs (i + 2)))]) K (r_M_sign l G b0 (hx G h a S1) (a + 197) T hM (hX.cp hn) (scI_i _ _) (scI_i _ _)) ca_L_69 im_M_sign se_M_sign rfl (by decide) hm_0 rfl rfl (by omega) (Nat.le_of_ble_eq_true rfl) d_L_682 (fun o h2 hp2 => ?_)
  obtain ⟨T1, rfl, qm⟩ := hp2
  obtain ⟨e1, hI1⟩ := ag_sign hX hM hn qx qm
  subst e1
  refine z_icmp_eq (tgt := 690) K d_L_685 (by decide) (fun _ => ?_) (fun q => absurd rfl q)
  refine z_hp (hxm (Nat.le_refl _)).symm ?_
  exact kk S1 T1 hI1
end L3
