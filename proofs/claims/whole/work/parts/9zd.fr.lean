/-! ===== the law, case by case ===== -/
set_option maxHeartbeats 4000000 in
set_option maxRecDepth 100000 in
theorem lc_type {g : G} {x : Cx} {σ : Sg} {b n : Nat} {f : Nat → Int32} {i : Int} (hO : Ok g x RL cL_law 4 14) (hX : SX x b n f) (hn : n ≤ 3072) (i0 : 0 ≤ i) (i6 : i + 6 ≤ n) (hR : Rel σ) (kk : ∀ σ' : Sg, Rel σ' → Z g x 4 989 [(0, .ref b), (1, .ref (g.2.2.1 0)), (2, .ref (g.2.2.1 113)), (3, vI i)] [] σ') : Z g x 4 156 [(0, .ref b), (1, .ref (g.2.2.1 0)), (2, .ref (g.2.2.1 113)), (3, vI i)] [] σ := by
  obtain ⟨wv, dv, si, s5, s6, p1, p2, gi, sz, tb⟩ := CH_of hR
  refine z_aload_n hO 1 dL_law_156 rfl ?_
  refine z_aload_n hO 0 dL_law_157 rfl ?_
  refine z_iload_n hO 3 dL_law_158 rfl ?_
  refine z_iconst hO dL_law_159 ?_
  refine z_iadd hO dL_law_160 ?_
  refine z_sld hO hX (by omega) hn dL_law_161 ?_
  refine z_cvI hO (t_X8_type (scr_r _ _) tb.1) cv_L_13 rfl rfl rfl rfl (by decide) (Nat.le_of_ble_eq_true rfl) dL_law_162 (fun r1 σ1 q1 => ?_)
  obtain ⟨rw, rd, rn, r2, ru, r3, rt, rz⟩ := RH_hk (RH_of hR) (hk_type q1)
  refine z_aload_n hO 2 dL_law_165 rfl ?_
  refine z_aload_n hO 0 dL_law_166 rfl ?_
  refine z_iload_n hO 3 dL_law_167 rfl ?_
  refine z_iconst hO dL_law_168 ?_
  refine z_iadd hO dL_law_169 ?_
  refine z_sld hO hX (by omega) hn dL_law_170 ?_
  refine z_cvI hO (t_X9_type (scr_r _ _) rt.1) cv_L_17 rfl rfl rfl rfl (by decide) (Nat.le_of_ble_eq_true rfl) dL_law_171 (fun r2 σ2 q2 => ?_)
  obtain ⟨e, hR2⟩ := q_type hR q1 q2
  exact z_icmpE hO 989 dL_law_174 (by decide) e (kk _ hR2)
set_option maxHeartbeats 4000000 in
set_option maxRecDepth 100000 in
theorem lc_words {g : G} {x : Cx} {σ : Sg} {b n : Nat} {f : Nat → Int32} {i : Int} (hO : Ok g x RL cL_law 4 14) (hX : SX x b n f) (hn : n ≤ 3072) (i0 : 0 ≤ i) (i6 : i + 6 ≤ n) (hR : Rel σ) (kk : ∀ σ' : Sg, Rel σ' → Z g x 4 989 [(0, .ref b), (1, .ref (g.2.2.1 0)), (2, .ref (g.2.2.1 113)), (3, vI i)] [] σ') : Z g x 4 179 [(0, .ref b), (1, .ref (g.2.2.1 0)), (2, .ref (g.2.2.1 113)), (3, vI i)] [] σ := by
  obtain ⟨wv, dv, si, s5, s6, p1, p2, gi, sz, tb⟩ := CH_of hR
  refine z_aload_n hO 1 dL_law_179 rfl ?_
  refine z_cvI hO (t_X8_words tb) cv_L_18 rfl rfl rfl rfl (by decide) (Nat.le_of_ble_eq_true rfl) dL_law_180 (fun r1 σ1 q1 => ?_)
  obtain ⟨rw, rd, rn, r2, ru, r3, rt, rz⟩ := RH_hk (RH_of hR) (hk_words q1)
  refine z_aload_n hO 2 dL_law_183 rfl ?_
  refine z_cvI hO (t_X9_words rt) cv_L_22 rfl rfl rfl rfl (by decide) (Nat.le_of_ble_eq_true rfl) dL_law_184 (fun r2 σ2 q2 => ?_)
  obtain ⟨e, hR2⟩ := q_words hR q1 q2
  exact z_icmpE hO 989 dL_law_187 (by decide) e (kk _ hR2)
set_option maxHeartbeats 4000000 in
set_option maxRecDepth 100000 in
theorem lc_say {g : G} {x : Cx} {σ : Sg} {b n : Nat} {f : Nat → Int32} {i : Int} (hO : Ok g x RL cL_law 4 14) (hX : SX x b n f) (hn : n ≤ 3072) (i0 : 0 ≤ i) (i6 : i + 6 ≤ n) (hR : Rel σ) (kk : ∀ σ' : Sg, Rel σ' → Z g x 4 989 [(0, .ref b), (1, .ref (g.2.2.1 0)), (2, .ref (g.2.2.1 113)), (3, vI i)] [] σ') : Z g x 4 192 [(0, .ref b), (1, .ref (g.2.2.1 0)), (2, .ref (g.2.2.1 113)), (3, vI i)] [] σ := by
  obtain ⟨wv, dv, si, s5, s6, p1, p2, gi, sz, tb⟩ := CH_of hR
  refine z_aload_n hO 1 dL_law_192 rfl ?_
  refine z_aload_n hO 0 dL_law_193 rfl ?_
  refine z_iload_n hO 3 dL_law_194 rfl ?_
  refine z_iconst hO dL_law_195 ?_
  refine z_iadd hO dL_law_196 ?_
  refine z_sld hO hX (by omega) hn dL_law_197 ?_
  refine z_cvI hO (t_X8_say (scr_r _ _)) cv_L_23 rfl rfl rfl rfl (by decide) (Nat.le_of_ble_eq_true rfl) dL_law_198 (fun r1 σ1 q1 => ?_)
  obtain ⟨rw, rd, rn, r2, ru, r3, rt, rz⟩ := RH_hk (RH_of hR) (hk_say q1)
  refine z_aload_n hO 2 dL_law_201 rfl ?_
  refine z_aload_n hO 0 dL_law_202 rfl ?_
  refine z_iload_n hO 3 dL_law_203 rfl ?_
  refine z_iconst hO dL_law_204 ?_
  refine z_iadd hO dL_law_205 ?_
  refine z_sld hO hX (by omega) hn dL_law_206 ?_
  refine z_cvI hO (t_X9_say (scr_r _ _)) cv_L_26 rfl rfl rfl rfl (by decide) (Nat.le_of_ble_eq_true rfl) dL_law_207 (fun r2 σ2 q2 => ?_)
  obtain ⟨e, hR2⟩ := q_say hR q1 q2
  exact z_icmpE hO 989 dL_law_210 (by decide) e (kk _ hR2)
set_option maxHeartbeats 4000000 in
set_option maxRecDepth 100000 in
theorem lc_slot {g : G} {x : Cx} {σ : Sg} {b n : Nat} {f : Nat → Int32} {i : Int} (hO : Ok g x RL cL_law 4 14) (hX : SX x b n f) (hn : n ≤ 3072) (i0 : 0 ≤ i) (i6 : i + 6 ≤ n) (hR : Rel σ) (kk : ∀ σ' : Sg, Rel σ' → Z g x 4 989 [(0, .ref b), (1, .ref (g.2.2.1 0)), (2, .ref (g.2.2.1 113)), (3, vI i)] [] σ') : Z g x 4 215 [(0, .ref b), (1, .ref (g.2.2.1 0)), (2, .ref (g.2.2.1 113)), (3, vI i)] [] σ := by
  obtain ⟨wv, dv, si, s5, s6, p1, p2, gi, sz, tb⟩ := CH_of hR
  refine z_aload_n hO 1 dL_law_215 rfl ?_
  refine z_aload_n hO 0 dL_law_216 rfl ?_
  refine z_iload_n hO 3 dL_law_217 rfl ?_
  refine z_iconst hO dL_law_218 ?_
  refine z_iadd hO dL_law_219 ?_
  refine z_sld hO hX (by omega) hn dL_law_220 ?_
  refine z_aload_n hO 0 dL_law_221 rfl ?_
  refine z_iload_n hO 3 dL_law_222 rfl ?_
  refine z_iconst hO dL_law_223 ?_
  refine z_iadd hO dL_law_224 ?_
  refine z_sld hO hX (by omega) hn dL_law_225 ?_
  refine z_aload_n hO 0 dL_law_226 rfl ?_
  refine z_iload_n hO 3 dL_law_227 rfl ?_
  refine z_iconst hO dL_law_228 ?_
  refine z_iadd hO dL_law_229 ?_
  refine z_sld hO hX (by omega) hn dL_law_230 ?_
  refine z_cvI hO (t_X8_slot (scr_r _ _) (scr_r _ _) (scr_r _ _) gi) cv_L_27 rfl rfl rfl rfl (by decide) (Nat.le_of_ble_eq_true rfl) dL_law_231 (fun r1 σ1 q1 => ?_)
  obtain ⟨rw, rd, rn, r2, ru, r3, rt, rz⟩ := RH_hk (RH_of hR) (hk_slot q1)
  refine z_aload_n hO 2 dL_law_234 rfl ?_
  refine z_aload_n hO 0 dL_law_235 rfl ?_
  refine z_iload_n hO 3 dL_law_236 rfl ?_
  refine z_iconst hO dL_law_237 ?_
  refine z_iadd hO dL_law_238 ?_
  refine z_sld hO hX (by omega) hn dL_law_239 ?_
  refine z_aload_n hO 0 dL_law_240 rfl ?_
  refine z_iload_n hO 3 dL_law_241 rfl ?_
  refine z_iconst hO dL_law_242 ?_
  refine z_iadd hO dL_law_243 ?_
  refine z_sld hO hX (by omega) hn dL_law_244 ?_
  refine z_aload_n hO 0 dL_law_245 rfl ?_
  refine z_iload_n hO 3 dL_law_246 rfl ?_
  refine z_iconst hO dL_law_247 ?_
  refine z_iadd hO dL_law_248 ?_
  refine z_sld hO hX (by omega) hn dL_law_249 ?_
  refine z_cvI hO (t_X9_slot (scr_r _ _) (scr_r _ _) (scr_r _ _) rn rw) cv_L_31 rfl rfl rfl rfl (by decide) (Nat.le_of_ble_eq_true rfl) dL_law_250 (fun r2 σ2 q2 => ?_)
  obtain ⟨e, hR2⟩ := q_slot hR q1 q2
  exact z_icmpE hO 989 dL_law_253 (by decide) e (kk _ hR2)
set_option maxHeartbeats 4000000 in
set_option maxRecDepth 100000 in
theorem lc_count {g : G} {x : Cx} {σ : Sg} {b n : Nat} {f : Nat → Int32} {i : Int} (hO : Ok g x RL cL_law 4 14) (hX : SX x b n f) (hn : n ≤ 3072) (i0 : 0 ≤ i) (i6 : i + 6 ≤ n) (hR : Rel σ) (kk : ∀ σ' : Sg, Rel σ' → Z g x 4 989 [(0, .ref b), (1, .ref (g.2.2.1 0)), (2, .ref (g.2.2.1 113)), (3, vI i)] [] σ') : Z g x 4 258 [(0, .ref b), (1, .ref (g.2.2.1 0)), (2, .ref (g.2.2.1 113)), (3, vI i)] [] σ := by
  obtain ⟨wv, dv, si, s5, s6, p1, p2, gi, sz, tb⟩ := CH_of hR
  refine z_aload_n hO 1 dL_law_258 rfl ?_
  refine z_aload_n hO 0 dL_law_259 rfl ?_
  refine z_iload_n hO 3 dL_law_260 rfl ?_
  refine z_iconst hO dL_law_261 ?_
  refine z_iadd hO dL_law_262 ?_
  refine z_sld hO hX (by omega) hn dL_law_263 ?_
  refine z_cvI hO (t_X8_count (scr_r _ _) wv si s5 dv) cv_L_32 rfl rfl rfl rfl (by decide) (Nat.le_of_ble_eq_true rfl) dL_law_264 (fun r1 σ1 q1 => ?_)
  obtain ⟨rw, rd, rn, r2, ru, r3, rt, rz⟩ := RH_hk (RH_of hR) (hk_count q1)
  refine z_aload_n hO 2 dL_law_267 rfl ?_
  refine z_aload_n hO 0 dL_law_268 rfl ?_
  refine z_iload_n hO 3 dL_law_269 rfl ?_
  refine z_iconst hO dL_law_270 ?_
  refine z_iadd hO dL_law_271 ?_
  refine z_sld hO hX (by omega) hn dL_law_272 ?_
  refine z_cvI hO (t_X9_count (scr_r _ _) rw rd r2) cv_L_35 rfl rfl rfl rfl (by decide) (Nat.le_of_ble_eq_true rfl) dL_law_273 (fun r2 σ2 q2 => ?_)
  obtain ⟨e, hR2⟩ := q_count hR q1 q2
  exact z_icmpE hO 989 dL_law_276 (by decide) e (kk _ hR2)
set_option maxHeartbeats 4000000 in
set_option maxRecDepth 100000 in
theorem lc_hear {g : G} {x : Cx} {σ : Sg} {b n : Nat} {f : Nat → Int32} {i : Int} (hO : Ok g x RL cL_law 4 14) (hX : SX x b n f) (hn : n ≤ 3072) (i0 : 0 ≤ i) (i6 : i + 6 ≤ n) (hR : Rel σ) (kk : ∀ σ' : Sg, Rel σ' → Z g x 4 989 [(0, .ref b), (1, .ref (g.2.2.1 0)), (2, .ref (g.2.2.1 113)), (3, vI i)] [] σ') : Z g x 4 281 [(0, .ref b), (1, .ref (g.2.2.1 0)), (2, .ref (g.2.2.1 113)), (3, vI i)] [] σ := by
  obtain ⟨wv, dv, si, s5, s6, p1, p2, gi, sz, tb⟩ := CH_of hR
  refine z_aload_n hO 1 dL_law_281 rfl ?_
  refine z_aload_n hO 0 dL_law_282 rfl ?_
  refine z_iload_n hO 3 dL_law_283 rfl ?_
  refine z_iconst hO dL_law_284 ?_
  refine z_iadd hO dL_law_285 ?_
  refine z_sld hO hX (by omega) hn dL_law_286 ?_
  refine z_aload_n hO 0 dL_law_287 rfl ?_
  refine z_iload_n hO 3 dL_law_288 rfl ?_
  refine z_iconst hO dL_law_289 ?_
  refine z_iadd hO dL_law_290 ?_
  refine z_sld hO hX (by omega) hn dL_law_291 ?_
  refine z_cvI hO (t_X8_hear (scr_r _ _) (scr_r _ _) p1 p2 gi) cv_L_36 rfl rfl rfl rfl (by decide) (Nat.le_of_ble_eq_true rfl) dL_law_292 (fun r1 σ1 q1 => ?_)
  obtain ⟨rw, rd, rn, r2, ru, r3, rt, rz⟩ := RH_hk (RH_of hR) (hk_hear q1)
  refine z_aload_n hO 2 dL_law_295 rfl ?_
  refine z_aload_n hO 0 dL_law_296 rfl ?_
  refine z_iload_n hO 3 dL_law_297 rfl ?_
  refine z_iconst hO dL_law_298 ?_
  refine z_iadd hO dL_law_299 ?_
  refine z_sld hO hX (by omega) hn dL_law_300 ?_
  refine z_aload_n hO 0 dL_law_301 rfl ?_
  refine z_iload_n hO 3 dL_law_302 rfl ?_
  refine z_iconst hO dL_law_303 ?_
  refine z_iadd hO dL_law_304 ?_
  refine z_sld hO hX (by omega) hn dL_law_305 ?_
  refine z_cvI hO (t_X9_hear (scr_r _ _) (scr_r _ _) ru rn) cv_L_40 rfl rfl rfl rfl (by decide) (Nat.le_of_ble_eq_true rfl) dL_law_306 (fun r2 σ2 q2 => ?_)
  obtain ⟨e, hR2⟩ := q_hear hR q1 q2
  exact z_icmpE hO 989 dL_law_309 (by decide) e (kk _ hR2)
set_option maxHeartbeats 4000000 in
set_option maxRecDepth 100000 in
theorem lc_also {g : G} {x : Cx} {σ : Sg} {b n : Nat} {f : Nat → Int32} {i : Int} (hO : Ok g x RL cL_law 4 14) (hX : SX x b n f) (hn : n ≤ 3072) (i0 : 0 ≤ i) (i6 : i + 6 ≤ n) (hR : Rel σ) (kk : ∀ σ' : Sg, Rel σ' → Z g x 4 989 [(0, .ref b), (1, .ref (g.2.2.1 0)), (2, .ref (g.2.2.1 113)), (3, vI i)] [] σ') : Z g x 4 314 [(0, .ref b), (1, .ref (g.2.2.1 0)), (2, .ref (g.2.2.1 113)), (3, vI i)] [] σ := by
  obtain ⟨wv, dv, si, s5, s6, p1, p2, gi, sz, tb⟩ := CH_of hR
  refine z_aload_n hO 1 dL_law_314 rfl ?_
  refine z_aload_n hO 0 dL_law_315 rfl ?_
  refine z_iload_n hO 3 dL_law_316 rfl ?_
  refine z_iconst hO dL_law_317 ?_
  refine z_iadd hO dL_law_318 ?_
  refine z_sld hO hX (by omega) hn dL_law_319 ?_
  refine z_aload_n hO 0 dL_law_320 rfl ?_
  refine z_iload_n hO 3 dL_law_321 rfl ?_
  refine z_iconst hO dL_law_322 ?_
  refine z_iadd hO dL_law_323 ?_
  refine z_sld hO hX (by omega) hn dL_law_324 ?_
  refine z_aload_n hO 0 dL_law_325 rfl ?_
  refine z_iload_n hO 3 dL_law_326 rfl ?_
  refine z_iconst hO dL_law_327 ?_
  refine z_iadd hO dL_law_328 ?_
  refine z_sld hO hX (by omega) hn dL_law_329 ?_
  refine z_cvI hO (t_X8_also (scr_r _ _) (scr_r _ _) (scr_r _ _) p1 p2 gi) cv_L_41 rfl rfl rfl rfl (by decide) (Nat.le_of_ble_eq_true rfl) dL_law_330 (fun r1 σ1 q1 => ?_)
  obtain ⟨rw, rd, rn, r2, ru, r3, rt, rz⟩ := RH_hk (RH_of hR) (hk_also q1)
  refine z_aload_n hO 2 dL_law_333 rfl ?_
  refine z_aload_n hO 0 dL_law_334 rfl ?_
  refine z_iload_n hO 3 dL_law_335 rfl ?_
  refine z_iconst hO dL_law_336 ?_
  refine z_iadd hO dL_law_337 ?_
  refine z_sld hO hX (by omega) hn dL_law_338 ?_
  refine z_aload_n hO 0 dL_law_339 rfl ?_
  refine z_iload_n hO 3 dL_law_340 rfl ?_
  refine z_iconst hO dL_law_341 ?_
  refine z_iadd hO dL_law_342 ?_
  refine z_sld hO hX (by omega) hn dL_law_343 ?_
  refine z_aload_n hO 0 dL_law_344 rfl ?_
  refine z_iload_n hO 3 dL_law_345 rfl ?_
  refine z_iconst hO dL_law_346 ?_
  refine z_iadd hO dL_law_347 ?_
  refine z_sld hO hX (by omega) hn dL_law_348 ?_
  refine z_cvI hO (t_X9_also (scr_r _ _) (scr_r _ _) (scr_r _ _) ru rn rw) cv_L_44 rfl rfl rfl rfl (by decide) (Nat.le_of_ble_eq_true rfl) dL_law_349 (fun r2 σ2 q2 => ?_)
  obtain ⟨e, hR2⟩ := q_also hR q1 q2
  exact z_icmpE hO 989 dL_law_352 (by decide) e (kk _ hR2)
set_option maxHeartbeats 4000000 in
set_option maxRecDepth 100000 in
theorem lc_lose {g : G} {x : Cx} {σ : Sg} {b n : Nat} {f : Nat → Int32} {i : Int} (hO : Ok g x RL cL_law 4 14) (hX : SX x b n f) (hn : n ≤ 3072) (i0 : 0 ≤ i) (i6 : i + 6 ≤ n) (hR : Rel σ) (kk : ∀ σ' : Sg, Rel σ' → Z g x 4 989 [(0, .ref b), (1, .ref (g.2.2.1 0)), (2, .ref (g.2.2.1 113)), (3, vI i)] [] σ') : Z g x 4 357 [(0, .ref b), (1, .ref (g.2.2.1 0)), (2, .ref (g.2.2.1 113)), (3, vI i)] [] σ := by
  obtain ⟨wv, dv, si, s5, s6, p1, p2, gi, sz, tb⟩ := CH_of hR
  refine z_aload_n hO 1 dL_law_357 rfl ?_
  refine z_aload_n hO 0 dL_law_358 rfl ?_
  refine z_iload_n hO 3 dL_law_359 rfl ?_
  refine z_iconst hO dL_law_360 ?_
  refine z_iadd hO dL_law_361 ?_
  refine z_sld hO hX (by omega) hn dL_law_362 ?_
  refine z_cvI hO (t_X8_lose (scr_r _ _) p1 p2 gi) cv_L_45 rfl rfl rfl rfl (by decide) (Nat.le_of_ble_eq_true rfl) dL_law_363 (fun r1 σ1 q1 => ?_)
  obtain ⟨rw, rd, rn, r2, ru, r3, rt, rz⟩ := RH_hk (RH_of hR) (hk_lose q1)
  refine z_aload_n hO 2 dL_law_366 rfl ?_
  refine z_aload_n hO 0 dL_law_367 rfl ?_
  refine z_iload_n hO 3 dL_law_368 rfl ?_
  refine z_iconst hO dL_law_369 ?_
  refine z_iadd hO dL_law_370 ?_
  refine z_sld hO hX (by omega) hn dL_law_371 ?_
  refine z_cvI hO (t_X9_lose (scr_r _ _) ru rn) cv_L_48 rfl rfl rfl rfl (by decide) (Nat.le_of_ble_eq_true rfl) dL_law_372 (fun r2 σ2 q2 => ?_)
  obtain ⟨e, hR2⟩ := q_lose hR q1 q2
  exact z_icmpE hO 989 dL_law_375 (by decide) e (kk _ hR2)
set_option maxHeartbeats 4000000 in
set_option maxRecDepth 100000 in
theorem lc_settle {g : G} {x : Cx} {σ : Sg} {b n : Nat} {f : Nat → Int32} {i : Int} (hO : Ok g x RL cL_law 4 14) (hX : SX x b n f) (hn : n ≤ 3072) (i0 : 0 ≤ i) (i6 : i + 6 ≤ n) (hR : Rel σ) (kk : ∀ σ' : Sg, Rel σ' → Z g x 4 989 [(0, .ref b), (1, .ref (g.2.2.1 0)), (2, .ref (g.2.2.1 113)), (3, vI i)] [] σ') : Z g x 4 380 [(0, .ref b), (1, .ref (g.2.2.1 0)), (2, .ref (g.2.2.1 113)), (3, vI i)] [] σ := by
  obtain ⟨wv, dv, si, s5, s6, p1, p2, gi, sz, tb⟩ := CH_of hR
  refine z_aload_n hO 1 dL_law_380 rfl ?_
  refine z_aload_n hO 0 dL_law_381 rfl ?_
  refine z_iload_n hO 3 dL_law_382 rfl ?_
  refine z_iconst hO dL_law_383 ?_
  refine z_iadd hO dL_law_384 ?_
  refine z_sld hO hX (by omega) hn dL_law_385 ?_
  refine z_aload_n hO 0 dL_law_386 rfl ?_
  refine z_iload_n hO 3 dL_law_387 rfl ?_
  refine z_iconst hO dL_law_388 ?_
  refine z_iadd hO dL_law_389 ?_
  refine z_sld hO hX (by omega) hn dL_law_390 ?_
  refine z_cvI hO (t_X8_settle (scr_r _ _) (scr_r _ _) p1 p2 gi) cv_L_49 rfl rfl rfl rfl (by decide) (Nat.le_of_ble_eq_true rfl) dL_law_391 (fun r1 σ1 q1 => ?_)
  obtain ⟨rw, rd, rn, r2, ru, r3, rt, rz⟩ := RH_hk (RH_of hR) (hk_settle q1)
  refine z_aload_n hO 2 dL_law_394 rfl ?_
  refine z_aload_n hO 0 dL_law_395 rfl ?_
  refine z_iload_n hO 3 dL_law_396 rfl ?_
  refine z_iconst hO dL_law_397 ?_
  refine z_iadd hO dL_law_398 ?_
  refine z_sld hO hX (by omega) hn dL_law_399 ?_
  refine z_aload_n hO 0 dL_law_400 rfl ?_
  refine z_iload_n hO 3 dL_law_401 rfl ?_
  refine z_iconst hO dL_law_402 ?_
  refine z_iadd hO dL_law_403 ?_
  refine z_sld hO hX (by omega) hn dL_law_404 ?_
  refine z_cvI hO (t_X9_settle (scr_r _ _) (scr_r _ _) ru rn rw) cv_L_52 rfl rfl rfl rfl (by decide) (Nat.le_of_ble_eq_true rfl) dL_law_405 (fun r2 σ2 q2 => ?_)
  obtain ⟨e, hR2⟩ := q_settle hR q1 q2
  exact z_icmpE hO 989 dL_law_408 (by decide) e (kk _ hR2)
set_option maxHeartbeats 4000000 in
set_option maxRecDepth 100000 in
theorem lc_check {g : G} {x : Cx} {σ : Sg} {b n : Nat} {f : Nat → Int32} {i : Int} (hO : Ok g x RL cL_law 4 14) (hX : SX x b n f) (hn : n ≤ 3072) (i0 : 0 ≤ i) (i6 : i + 6 ≤ n) (hR : Rel σ) (kk : ∀ σ' : Sg, Rel σ' → Z g x 4 989 [(0, .ref b), (1, .ref (g.2.2.1 0)), (2, .ref (g.2.2.1 113)), (3, vI i)] [] σ') : Z g x 4 413 [(0, .ref b), (1, .ref (g.2.2.1 0)), (2, .ref (g.2.2.1 113)), (3, vI i)] [] σ := by
  obtain ⟨wv, dv, si, s5, s6, p1, p2, gi, sz, tb⟩ := CH_of hR
  refine z_aload_n hO 1 dL_law_413 rfl ?_
  refine z_aload_n hO 0 dL_law_414 rfl ?_
  refine z_iload_n hO 3 dL_law_415 rfl ?_
  refine z_iconst hO dL_law_416 ?_
  refine z_iadd hO dL_law_417 ?_
  refine z_sld hO hX (by omega) hn dL_law_418 ?_
  refine z_cvI hO (t_X8_check (scr_r _ _) p1 p2) cv_L_53 rfl rfl rfl rfl (by decide) (Nat.le_of_ble_eq_true rfl) dL_law_419 (fun r1 σ1 q1 => ?_)
  obtain ⟨rw, rd, rn, r2, ru, r3, rt, rz⟩ := RH_hk (RH_of hR) (hk_check q1)
  refine z_aload_n hO 2 dL_law_422 rfl ?_
  refine z_aload_n hO 0 dL_law_423 rfl ?_
  refine z_iload_n hO 3 dL_law_424 rfl ?_
  refine z_iconst hO dL_law_425 ?_
  refine z_iadd hO dL_law_426 ?_
  refine z_sld hO hX (by omega) hn dL_law_427 ?_
  refine z_cvI hO (t_X9_check (scr_r _ _) ru) cv_L_56 rfl rfl rfl rfl (by decide) (Nat.le_of_ble_eq_true rfl) dL_law_428 (fun r2 σ2 q2 => ?_)
  obtain ⟨e, hR2⟩ := q_check hR q1 q2
  exact z_icmpE hO 989 dL_law_431 (by decide) e (kk _ hR2)
set_option maxHeartbeats 4000000 in
set_option maxRecDepth 100000 in
theorem lc_slack {g : G} {x : Cx} {σ : Sg} {b n : Nat} {f : Nat → Int32} {i : Int} (hO : Ok g x RL cL_law 4 14) (hX : SX x b n f) (hn : n ≤ 3072) (i0 : 0 ≤ i) (i6 : i + 6 ≤ n) (hR : Rel σ) (kk : ∀ σ' : Sg, Rel σ' → Z g x 4 989 [(0, .ref b), (1, .ref (g.2.2.1 0)), (2, .ref (g.2.2.1 113)), (3, vI i)] [] σ') : Z g x 4 436 [(0, .ref b), (1, .ref (g.2.2.1 0)), (2, .ref (g.2.2.1 113)), (3, vI i)] [] σ := by
  obtain ⟨wv, dv, si, s5, s6, p1, p2, gi, sz, tb⟩ := CH_of hR
  refine z_aload_n hO 1 dL_law_436 rfl ?_
  refine z_aload_n hO 0 dL_law_437 rfl ?_
  refine z_iload_n hO 3 dL_law_438 rfl ?_
  refine z_iconst hO dL_law_439 ?_
  refine z_iadd hO dL_law_440 ?_
  refine z_sld hO hX (by omega) hn dL_law_441 ?_
  refine z_cvI hO (t_X8_slack (scr_r _ _) p1 p2) cv_L_57 rfl rfl rfl rfl (by decide) (Nat.le_of_ble_eq_true rfl) dL_law_442 (fun r1 σ1 q1 => ?_)
  obtain ⟨rw, rd, rn, r2, ru, r3, rt, rz⟩ := RH_hk (RH_of hR) (hk_slack q1)
  refine z_aload_n hO 2 dL_law_445 rfl ?_
  refine z_aload_n hO 0 dL_law_446 rfl ?_
  refine z_iload_n hO 3 dL_law_447 rfl ?_
  refine z_iconst hO dL_law_448 ?_
  refine z_iadd hO dL_law_449 ?_
  refine z_sld hO hX (by omega) hn dL_law_450 ?_
  refine z_cvI hO (t_X9_slack (scr_r _ _) ru) cv_L_60 rfl rfl rfl rfl (by decide) (Nat.le_of_ble_eq_true rfl) dL_law_451 (fun r2 σ2 q2 => ?_)
  obtain ⟨e, hR2⟩ := q_slack hR q1 q2
  exact z_icmpE hO 989 dL_law_454 (by decide) e (kk _ hR2)
set_option maxHeartbeats 4000000 in
set_option maxRecDepth 100000 in
theorem lc_storm {g : G} {x : Cx} {σ : Sg} {b n : Nat} {f : Nat → Int32} {i : Int} (hO : Ok g x RL cL_law 4 14) (hX : SX x b n f) (hn : n ≤ 3072) (i0 : 0 ≤ i) (i6 : i + 6 ≤ n) (hR : Rel σ) (kk : ∀ σ' : Sg, Rel σ' → Z g x 4 989 [(0, .ref b), (1, .ref (g.2.2.1 0)), (2, .ref (g.2.2.1 113)), (3, vI i)] [] σ') : Z g x 4 459 [(0, .ref b), (1, .ref (g.2.2.1 0)), (2, .ref (g.2.2.1 113)), (3, vI i)] [] σ := by
  obtain ⟨wv, dv, si, s5, s6, p1, p2, gi, sz, tb⟩ := CH_of hR
  refine z_aload_n hO 1 dL_law_459 rfl ?_
  refine z_aload_n hO 0 dL_law_460 rfl ?_
  refine z_iload_n hO 3 dL_law_461 rfl ?_
  refine z_iconst hO dL_law_462 ?_
  refine z_iadd hO dL_law_463 ?_
  refine z_sld hO hX (by omega) hn dL_law_464 ?_
  refine z_cvI hO (t_X8_storm (scr_r _ _) ⟨wv, s6, p1, p2⟩) cv_L_61 rfl rfl rfl rfl (by decide) (Nat.le_of_ble_eq_true rfl) dL_law_465 (fun r1 σ1 q1 => ?_)
  obtain ⟨rw, rd, rn, r2, ru, r3, rt, rz⟩ := RH_hk (RH_of hR) (hk_storm q1)
  refine z_aload_n hO 2 dL_law_468 rfl ?_
  refine z_aload_n hO 0 dL_law_469 rfl ?_
  refine z_iload_n hO 3 dL_law_470 rfl ?_
  refine z_iconst hO dL_law_471 ?_
  refine z_iadd hO dL_law_472 ?_
  refine z_sld hO hX (by omega) hn dL_law_473 ?_
  refine z_cvI hO (t_X9_storm (scr_r _ _) ⟨rw, ru, r3⟩) cv_L_64 rfl rfl rfl rfl (by decide) (Nat.le_of_ble_eq_true rfl) dL_law_474 (fun r2 σ2 q2 => ?_)
  obtain ⟨e, hR2⟩ := q_storm hR q1 q2
  exact z_icmpE hO 989 dL_law_477 (by decide) e (kk _ hR2)
set_option maxHeartbeats 4000000 in
set_option maxRecDepth 100000 in
theorem lc_undo {g : G} {x : Cx} {σ : Sg} {b n : Nat} {f : Nat → Int32} {i : Int} (hO : Ok g x RL cL_law 4 14) (hX : SX x b n f) (hn : n ≤ 3072) (i0 : 0 ≤ i) (i6 : i + 6 ≤ n) (hR : Rel σ) (kk : ∀ σ' : Sg, Rel σ' → Z g x 4 989 [(0, .ref b), (1, .ref (g.2.2.1 0)), (2, .ref (g.2.2.1 113)), (3, vI i)] [] σ') : Z g x 4 482 [(0, .ref b), (1, .ref (g.2.2.1 0)), (2, .ref (g.2.2.1 113)), (3, vI i)] [] σ := by
  obtain ⟨wv, dv, si, s5, s6, p1, p2, gi, sz, tb⟩ := CH_of hR
  refine z_aload_n hO 1 dL_law_482 rfl ?_
  refine z_cvI hO (t_X8_undo p1 p2) cv_L_65 rfl rfl rfl rfl (by decide) (Nat.le_of_ble_eq_true rfl) dL_law_483 (fun r1 σ1 q1 => ?_)
  obtain ⟨rw, rd, rn, r2, ru, r3, rt, rz⟩ := RH_hk (RH_of hR) (hk_undo q1)
  refine z_aload_n hO 2 dL_law_486 rfl ?_
  refine z_cvI hO (t_X9_undo ru) cv_L_68 rfl rfl rfl rfl (by decide) (Nat.le_of_ble_eq_true rfl) dL_law_487 (fun r2 σ2 q2 => ?_)
  obtain ⟨e, hR2⟩ := q_undo hR q1 q2
  exact z_icmpE hO 989 dL_law_490 (by decide) e (kk _ hR2)
set_option maxHeartbeats 4000000 in
set_option maxRecDepth 100000 in
theorem lc_seed {g : G} {x : Cx} {σ : Sg} {b n : Nat} {f : Nat → Int32} {i : Int} (hO : Ok g x RL cL_law 4 14) (hX : SX x b n f) (hn : n ≤ 3072) (i0 : 0 ≤ i) (i6 : i + 6 ≤ n) (hR : Rel σ) (kk : ∀ σ' : Sg, Rel σ' → Z g x 4 989 [(0, .ref b), (1, .ref (g.2.2.1 0)), (2, .ref (g.2.2.1 113)), (3, vI i)] [] σ') : Z g x 4 495 [(0, .ref b), (1, .ref (g.2.2.1 0)), (2, .ref (g.2.2.1 113)), (3, vI i)] [] σ := by
  obtain ⟨wv, dv, si, s5, s6, p1, p2, gi, sz, tb⟩ := CH_of hR
  refine z_aload_n hO 1 dL_law_495 rfl ?_
  refine z_aload_n hO 0 dL_law_496 rfl ?_
  refine z_iload_n hO 3 dL_law_497 rfl ?_
  refine z_iconst hO dL_law_498 ?_
  refine z_iadd hO dL_law_499 ?_
  refine z_sld hO hX (by omega) hn dL_law_500 ?_
  refine z_cvI hO (t_X8_seed (scr_r _ _)) cv_L_69 rfl rfl rfl rfl (by decide) (Nat.le_of_ble_eq_true rfl) dL_law_501 (fun r1 σ1 q1 => ?_)
  obtain ⟨rw, rd, rn, r2, ru, r3, rt, rz⟩ := RH_hk (RH_of hR) (hk_seed q1)
  refine z_aload_n hO 2 dL_law_504 rfl ?_
  refine z_aload_n hO 0 dL_law_505 rfl ?_
  refine z_iload_n hO 3 dL_law_506 rfl ?_
  refine z_iconst hO dL_law_507 ?_
  refine z_iadd hO dL_law_508 ?_
  refine z_sld hO hX (by omega) hn dL_law_509 ?_
  refine z_cvI hO (t_X9_seed (scr_r _ _)) cv_L_72 rfl rfl rfl rfl (by decide) (Nat.le_of_ble_eq_true rfl) dL_law_510 (fun r2 σ2 q2 => ?_)
  obtain ⟨e, hR2⟩ := q_seed (scr_r _ _).2 hR q1 q2
  exact z_icmpE hO 989 dL_law_513 (by decide) e (kk _ hR2)
set_option maxHeartbeats 4000000 in
set_option maxRecDepth 100000 in
theorem lc_best {g : G} {x : Cx} {σ : Sg} {b n : Nat} {f : Nat → Int32} {i : Int} (hO : Ok g x RL cL_law 4 14) (hX : SX x b n f) (hn : n ≤ 3072) (i0 : 0 ≤ i) (i6 : i + 6 ≤ n) (hR : Rel σ) (kk : ∀ σ' : Sg, Rel σ' → Z g x 4 989 [(0, .ref b), (1, .ref (g.2.2.1 0)), (2, .ref (g.2.2.1 113)), (3, vI i)] [] σ') : Z g x 4 518 [(0, .ref b), (1, .ref (g.2.2.1 0)), (2, .ref (g.2.2.1 113)), (3, vI i)] [] σ := by
  obtain ⟨wv, dv, si, s5, s6, p1, p2, gi, sz, tb⟩ := CH_of hR
  refine z_aload_n hO 1 dL_law_518 rfl ?_
  refine z_aload_n hO 0 dL_law_519 rfl ?_
  refine z_iload_n hO 3 dL_law_520 rfl ?_
  refine z_iconst hO dL_law_521 ?_
  refine z_iadd hO dL_law_522 ?_
  refine z_sld hO hX (by omega) hn dL_law_523 ?_
  refine z_cvI hO (t_X8_best (scr_r _ _) wv si) cv_L_73 rfl rfl rfl rfl (by decide) (Nat.le_of_ble_eq_true rfl) dL_law_524 (fun r1 σ1 q1 => ?_)
  obtain ⟨rw, rd, rn, r2, ru, r3, rt, rz⟩ := RH_hk (RH_of hR) (hk_best q1)
  refine z_aload_n hO 2 dL_law_527 rfl ?_
  refine z_aload_n hO 0 dL_law_528 rfl ?_
  refine z_iload_n hO 3 dL_law_529 rfl ?_
  refine z_iconst hO dL_law_530 ?_
  refine z_iadd hO dL_law_531 ?_
  refine z_sld hO hX (by omega) hn dL_law_532 ?_
  refine z_cvI hO (t_X9_best (scr_r _ _) rw) cv_L_76 rfl rfl rfl rfl (by decide) (Nat.le_of_ble_eq_true rfl) dL_law_533 (fun r2 σ2 q2 => ?_)
  obtain ⟨e, hR2⟩ := q_best hR q1 q2
  exact z_icmpE hO 989 dL_law_536 (by decide) e (kk _ hR2)
set_option maxHeartbeats 4000000 in
set_option maxRecDepth 100000 in
theorem lc_taken {g : G} {x : Cx} {σ : Sg} {b n : Nat} {f : Nat → Int32} {i : Int} (hO : Ok g x RL cL_law 4 14) (hX : SX x b n f) (hn : n ≤ 3072) (i0 : 0 ≤ i) (i6 : i + 6 ≤ n) (hR : Rel σ) (kk : ∀ σ' : Sg, Rel σ' → Z g x 4 989 [(0, .ref b), (1, .ref (g.2.2.1 0)), (2, .ref (g.2.2.1 113)), (3, vI i)] [] σ') : Z g x 4 541 [(0, .ref b), (1, .ref (g.2.2.1 0)), (2, .ref (g.2.2.1 113)), (3, vI i)] [] σ := by
  obtain ⟨wv, dv, si, s5, s6, p1, p2, gi, sz, tb⟩ := CH_of hR
  refine z_aload_n hO 1 dL_law_541 rfl ?_
  refine z_aload_n hO 0 dL_law_542 rfl ?_
  refine z_iload_n hO 3 dL_law_543 rfl ?_
  refine z_iconst hO dL_law_544 ?_
  refine z_iadd hO dL_law_545 ?_
  refine z_sld hO hX (by omega) hn dL_law_546 ?_
  refine z_cvI hO (t_X8_taken (scr_r _ _) wv si) cv_L_77 rfl rfl rfl rfl (by decide) (Nat.le_of_ble_eq_true rfl) dL_law_547 (fun r1 σ1 q1 => ?_)
  obtain ⟨rw, rd, rn, r2, ru, r3, rt, rz⟩ := RH_hk (RH_of hR) (hk_taken q1)
  refine z_aload_n hO 2 dL_law_550 rfl ?_
  refine z_aload_n hO 0 dL_law_551 rfl ?_
  refine z_iload_n hO 3 dL_law_552 rfl ?_
  refine z_iconst hO dL_law_553 ?_
  refine z_iadd hO dL_law_554 ?_
  refine z_sld hO hX (by omega) hn dL_law_555 ?_
  refine z_cvI hO (t_X9_taken (scr_r _ _) rn rw) cv_L_80 rfl rfl rfl rfl (by decide) (Nat.le_of_ble_eq_true rfl) dL_law_556 (fun r2 σ2 q2 => ?_)
  obtain ⟨e, hR2⟩ := q_taken hR q1 q2
  exact z_icmpE hO 989 dL_law_559 (by decide) e (kk _ hR2)
set_option maxHeartbeats 4000000 in
set_option maxRecDepth 100000 in
theorem lc_open {g : G} {x : Cx} {σ : Sg} {b n : Nat} {f : Nat → Int32} {i : Int} (hO : Ok g x RL cL_law 4 14) (hX : SX x b n f) (hn : n ≤ 3072) (i0 : 0 ≤ i) (i6 : i + 6 ≤ n) (hR : Rel σ) (kk : ∀ σ' : Sg, Rel σ' → Z g x 4 989 [(0, .ref b), (1, .ref (g.2.2.1 0)), (2, .ref (g.2.2.1 113)), (3, vI i)] [] σ') : Z g x 4 564 [(0, .ref b), (1, .ref (g.2.2.1 0)), (2, .ref (g.2.2.1 113)), (3, vI i)] [] σ := by
  obtain ⟨wv, dv, si, s5, s6, p1, p2, gi, sz, tb⟩ := CH_of hR
  refine z_aload_n hO 1 dL_law_564 rfl ?_
  refine z_aload_n hO 0 dL_law_565 rfl ?_
  refine z_iload_n hO 3 dL_law_566 rfl ?_
  refine z_iconst hO dL_law_567 ?_
  refine z_iadd hO dL_law_568 ?_
  refine z_sld hO hX (by omega) hn dL_law_569 ?_
  refine z_cvL hO (t_X8_open (scr_r _ _) wv si s5) cv_L_81 rfl rfl rfl rfl (by decide) (Nat.le_of_ble_eq_true rfl) dL_law_570 (fun r1 σ1 q1 => ?_)
  obtain ⟨rw, rd, rn, r2, ru, r3, rt, rz⟩ := RH_hk (RH_of hR) (hk_open q1)
  refine z_aload_n hO 2 dL_law_573 rfl ?_
  refine z_aload_n hO 0 dL_law_574 rfl ?_
  refine z_iload_n hO 3 dL_law_575 rfl ?_
  refine z_iconst hO dL_law_576 ?_
  refine z_iadd hO dL_law_577 ?_
  refine z_sld hO hX (by omega) hn dL_law_578 ?_
  refine z_cvL hO (t_X9_open (scr_r _ _) rn rw r2) cv_L_85 rfl rfl rfl rfl (by decide) (Nat.le_of_ble_eq_true rfl) dL_law_579 (fun r2 σ2 q2 => ?_)
  obtain ⟨e, hR2⟩ := q_open hR q1 q2
  exact z_lcmpE hO 989 dL_law_582 dL_law_583 (by decide) e (kk _ hR2)
set_option maxHeartbeats 4000000 in
set_option maxRecDepth 100000 in
theorem lc_counted {g : G} {x : Cx} {σ : Sg} {b n : Nat} {f : Nat → Int32} {i : Int} (hO : Ok g x RL cL_law 4 14) (hX : SX x b n f) (hn : n ≤ 3072) (i0 : 0 ≤ i) (i6 : i + 6 ≤ n) (hR : Rel σ) (kk : ∀ σ' : Sg, Rel σ' → Z g x 4 989 [(0, .ref b), (1, .ref (g.2.2.1 0)), (2, .ref (g.2.2.1 113)), (3, vI i)] [] σ') : Z g x 4 588 [(0, .ref b), (1, .ref (g.2.2.1 0)), (2, .ref (g.2.2.1 113)), (3, vI i)] [] σ := by
  obtain ⟨wv, dv, si, s5, s6, p1, p2, gi, sz, tb⟩ := CH_of hR
  refine z_aload_n hO 1 dL_law_588 rfl ?_
  refine z_aload_n hO 0 dL_law_589 rfl ?_
  refine z_iload_n hO 3 dL_law_590 rfl ?_
  refine z_iconst hO dL_law_591 ?_
  refine z_iadd hO dL_law_592 ?_
  refine z_sld hO hX (by omega) hn dL_law_593 ?_
  refine z_aload_n hO 0 dL_law_594 rfl ?_
  refine z_iload_n hO 3 dL_law_595 rfl ?_
  refine z_iconst hO dL_law_596 ?_
  refine z_iadd hO dL_law_597 ?_
  refine z_sld hO hX (by omega) hn dL_law_598 ?_
  refine z_cvI hO (t_X8_counted (scr_r _ _) (scr_r _ _) wv si s5) cv_L_86 rfl rfl rfl rfl (by decide) (Nat.le_of_ble_eq_true rfl) dL_law_599 (fun r1 σ1 q1 => ?_)
  obtain ⟨rw, rd, rn, r2, ru, r3, rt, rz⟩ := RH_hk (RH_of hR) (hk_counted q1)
  refine z_aload_n hO 2 dL_law_602 rfl ?_
  refine z_aload_n hO 0 dL_law_603 rfl ?_
  refine z_iload_n hO 3 dL_law_604 rfl ?_
  refine z_iconst hO dL_law_605 ?_
  refine z_iadd hO dL_law_606 ?_
  refine z_sld hO hX (by omega) hn dL_law_607 ?_
  refine z_aload_n hO 0 dL_law_608 rfl ?_
  refine z_iload_n hO 3 dL_law_609 rfl ?_
  refine z_iconst hO dL_law_610 ?_
  refine z_iadd hO dL_law_611 ?_
  refine z_sld hO hX (by omega) hn dL_law_612 ?_
  refine z_cvI hO (t_X9_counted (scr_r _ _) (scr_r _ _) rw r2) cv_L_89 rfl rfl rfl rfl (by decide) (Nat.le_of_ble_eq_true rfl) dL_law_613 (fun r2 σ2 q2 => ?_)
  obtain ⟨e, hR2⟩ := q_counted hR q1 q2
  exact z_icmpE hO 989 dL_law_616 (by decide) e (kk _ hR2)
set_option maxHeartbeats 4000000 in
set_option maxRecDepth 100000 in
theorem lc_likely {g : G} {x : Cx} {σ : Sg} {b n : Nat} {f : Nat → Int32} {i : Int} (hO : Ok g x RL cL_law 4 14) (hX : SX x b n f) (hn : n ≤ 3072) (i0 : 0 ≤ i) (i6 : i + 6 ≤ n) (hR : Rel σ) (kk : ∀ σ' : Sg, Rel σ' → Z g x 4 989 [(0, .ref b), (1, .ref (g.2.2.1 0)), (2, .ref (g.2.2.1 113)), (3, vI i)] [] σ') : Z g x 4 621 [(0, .ref b), (1, .ref (g.2.2.1 0)), (2, .ref (g.2.2.1 113)), (3, vI i)] [] σ := by
  obtain ⟨wv, dv, si, s5, s6, p1, p2, gi, sz, tb⟩ := CH_of hR
  refine z_aload_n hO 1 dL_law_621 rfl ?_
  refine z_aload_n hO 0 dL_law_622 rfl ?_
  refine z_iload_n hO 3 dL_law_623 rfl ?_
  refine z_iconst hO dL_law_624 ?_
  refine z_iadd hO dL_law_625 ?_
  refine z_sld hO hX (by omega) hn dL_law_626 ?_
  refine z_aload_n hO 0 dL_law_627 rfl ?_
  refine z_iload_n hO 3 dL_law_628 rfl ?_
  refine z_iconst hO dL_law_629 ?_
  refine z_iadd hO dL_law_630 ?_
  refine z_sld hO hX (by omega) hn dL_law_631 ?_
  refine z_cvL hO (t_X8_likely (scr_r _ _) (scr_r _ _) wv si) cv_L_90 rfl rfl rfl rfl (by decide) (Nat.le_of_ble_eq_true rfl) dL_law_632 (fun r1 σ1 q1 => ?_)
  obtain ⟨rw, rd, rn, r2, ru, r3, rt, rz⟩ := RH_hk (RH_of hR) (hk_likely q1)
  refine z_aload_n hO 2 dL_law_635 rfl ?_
  refine z_aload_n hO 0 dL_law_636 rfl ?_
  refine z_iload_n hO 3 dL_law_637 rfl ?_
  refine z_iconst hO dL_law_638 ?_
  refine z_iadd hO dL_law_639 ?_
  refine z_sld hO hX (by omega) hn dL_law_640 ?_
  refine z_aload_n hO 0 dL_law_641 rfl ?_
  refine z_iload_n hO 3 dL_law_642 rfl ?_
  refine z_iconst hO dL_law_643 ?_
  refine z_iadd hO dL_law_644 ?_
  refine z_sld hO hX (by omega) hn dL_law_645 ?_
  refine z_cvL hO (t_X9_likely (scr_r _ _) (scr_r _ _) rw) cv_L_94 rfl rfl rfl rfl (by decide) (Nat.le_of_ble_eq_true rfl) dL_law_646 (fun r2 σ2 q2 => ?_)
  obtain ⟨e, hR2⟩ := q_likely hR q1 q2
  exact z_lcmpE hO 989 dL_law_649 dL_law_650 (by decide) e (kk _ hR2)
set_option maxHeartbeats 4000000 in
set_option maxRecDepth 100000 in
theorem lc_image {g : G} {x : Cx} {σ : Sg} {b n : Nat} {f : Nat → Int32} {i : Int} (hO : Ok g x RL cL_law 4 14) (hX : SX x b n f) (hn : n ≤ 3072) (i0 : 0 ≤ i) (i6 : i + 6 ≤ n) (hR : Rel σ) (kk : ∀ σ' : Sg, Rel σ' → Z g x 4 989 [(0, .ref b), (1, .ref (g.2.2.1 0)), (2, .ref (g.2.2.1 113)), (3, vI i)] [] σ') : Z g x 4 655 [(0, .ref b), (1, .ref (g.2.2.1 0)), (2, .ref (g.2.2.1 113)), (3, vI i)] [] σ := by
  obtain ⟨wv, dv, si, s5, s6, p1, p2, gi, sz, tb⟩ := CH_of hR
  refine z_aload_n hO 1 dL_law_655 rfl ?_
  refine z_cvI hO (t_X8_image ) cv_L_95 rfl rfl rfl rfl (by decide) (Nat.le_of_ble_eq_true rfl) dL_law_656 (fun r1 σ1 q1 => ?_)
  obtain ⟨rw, rd, rn, r2, ru, r3, rt, rz⟩ := RH_hk (RH_of hR) (hk_image q1)
  refine z_aload_n hO 2 dL_law_659 rfl ?_
  refine z_cvI hO (t_X9_image ) cv_L_98 rfl rfl rfl rfl (by decide) (Nat.le_of_ble_eq_true rfl) dL_law_660 (fun r2 σ2 q2 => ?_)
  obtain ⟨e, hR2⟩ := q_image hR q1 q2
  exact z_icmpE hO 989 dL_law_663 (by decide) e (kk _ hR2)
set_option maxHeartbeats 4000000 in
set_option maxRecDepth 100000 in
theorem lc_restore {g : G} {x : Cx} {σ : Sg} {b n : Nat} {f : Nat → Int32} {i : Int} (hO : Ok g x RL cL_law 4 14) (hX : SX x b n f) (hn : n ≤ 3072) (i0 : 0 ≤ i) (i6 : i + 6 ≤ n) (hR : Rel σ) (kk : ∀ σ' : Sg, Rel σ' → Z g x 4 989 [(0, .ref b), (1, .ref (g.2.2.1 0)), (2, .ref (g.2.2.1 113)), (3, vI i)] [] σ') : Z g x 4 668 [(0, .ref b), (1, .ref (g.2.2.1 0)), (2, .ref (g.2.2.1 113)), (3, vI i)] [] σ := by
  obtain ⟨wv, dv, si, s5, s6, p1, p2, gi, sz, tb⟩ := CH_of hR
  refine z_aload_n hO 1 dL_law_668 rfl ?_
  refine z_cvI hO (t_X8_restore ) cv_L_99 rfl rfl rfl rfl (by decide) (Nat.le_of_ble_eq_true rfl) dL_law_669 (fun r1 σ1 q1 => ?_)
  obtain ⟨rw, rd, rn, r2, ru, r3, rt, rz⟩ := RH_hk (RH_of hR) (hk_restore q1)
  refine z_aload_n hO 2 dL_law_672 rfl ?_
  refine z_cvI hO (t_X9_restore ) cv_L_102 rfl rfl rfl rfl (by decide) (Nat.le_of_ble_eq_true rfl) dL_law_673 (fun r2 σ2 q2 => ?_)
  obtain ⟨e, hR2⟩ := q_restore hR q1 q2
  exact z_icmpE hO 989 dL_law_676 (by decide) e (kk _ hR2)
set_option maxHeartbeats 4000000 in
set_option maxRecDepth 100000 in
theorem lc_meant {g : G} {x : Cx} {σ : Sg} {b n : Nat} {f : Nat → Int32} {i : Int} (hO : Ok g x RL cL_law 4 14) (hX : SX x b n f) (hn : n ≤ 3072) (i0 : 0 ≤ i) (i6 : i + 6 ≤ n) (hR : Rel σ) (kk : ∀ σ' : Sg, Rel σ' → Z g x 4 989 [(0, .ref b), (1, .ref (g.2.2.1 0)), (2, .ref (g.2.2.1 113)), (3, vI i)] [] σ') : Z g x 4 681 [(0, .ref b), (1, .ref (g.2.2.1 0)), (2, .ref (g.2.2.1 113)), (3, vI i)] [] σ := by
  obtain ⟨wv, dv, si, s5, s6, p1, p2, gi, sz, tb⟩ := CH_of hR
  refine z_aload_n hO 1 dL_law_681 rfl ?_
  refine z_aload_n hO 0 dL_law_682 rfl ?_
  refine z_iload_n hO 3 dL_law_683 rfl ?_
  refine z_iconst hO dL_law_684 ?_
  refine z_iadd hO dL_law_685 ?_
  refine z_sld hO hX (by omega) hn dL_law_686 ?_
  refine z_aload_n hO 0 dL_law_687 rfl ?_
  refine z_iload_n hO 3 dL_law_688 rfl ?_
  refine z_iconst hO dL_law_689 ?_
  refine z_iadd hO dL_law_690 ?_
  refine z_sld hO hX (by omega) hn dL_law_691 ?_
  refine z_aload_n hO 0 dL_law_692 rfl ?_
  refine z_iload_n hO 3 dL_law_693 rfl ?_
  refine z_iconst hO dL_law_694 ?_
  refine z_iadd hO dL_law_695 ?_
  refine z_sld hO hX (by omega) hn dL_law_696 ?_
  refine z_aload_n hO 0 dL_law_697 rfl ?_
  refine z_iload_n hO 3 dL_law_698 rfl ?_
  refine z_iconst hO dL_law_699 ?_
  refine z_iadd hO dL_law_700 ?_
  refine z_sld hO hX (by omega) hn dL_law_701 ?_
  refine z_cvI hO (t_X8_meant (scr_r _ _) (scr_r _ _) (scr_r _ _) (scr_r _ _) wv si sz) cv_L_103 rfl rfl rfl rfl (by decide) (Nat.le_of_ble_eq_true rfl) dL_law_702 (fun r1 σ1 q1 => ?_)
  obtain ⟨rw, rd, rn, r2, ru, r3, rt, rz⟩ := RH_hk (RH_of hR) (hk_meant q1)
  refine z_aload_n hO 2 dL_law_705 rfl ?_
  refine z_aload_n hO 0 dL_law_706 rfl ?_
  refine z_iload_n hO 3 dL_law_707 rfl ?_
  refine z_iconst hO dL_law_708 ?_
  refine z_iadd hO dL_law_709 ?_
  refine z_sld hO hX (by omega) hn dL_law_710 ?_
  refine z_aload_n hO 0 dL_law_711 rfl ?_
  refine z_iload_n hO 3 dL_law_712 rfl ?_
  refine z_iconst hO dL_law_713 ?_
  refine z_iadd hO dL_law_714 ?_
  refine z_sld hO hX (by omega) hn dL_law_715 ?_
  refine z_aload_n hO 0 dL_law_716 rfl ?_
  refine z_iload_n hO 3 dL_law_717 rfl ?_
  refine z_iconst hO dL_law_718 ?_
  refine z_iadd hO dL_law_719 ?_
  refine z_sld hO hX (by omega) hn dL_law_720 ?_
  refine z_aload_n hO 0 dL_law_721 rfl ?_
  refine z_iload_n hO 3 dL_law_722 rfl ?_
  refine z_iconst hO dL_law_723 ?_
  refine z_iadd hO dL_law_724 ?_
  refine z_sld hO hX (by omega) hn dL_law_725 ?_
  refine z_cvI hO (t_X9_meant (scr_r _ _) (scr_r _ _) (scr_r _ _) (scr_r _ _) rw rz) cv_L_107 rfl rfl rfl rfl (by decide) (Nat.le_of_ble_eq_true rfl) dL_law_726 (fun r2 σ2 q2 => ?_)
  obtain ⟨e, hR2⟩ := q_meant hR q1 q2
  exact z_icmpE hO 989 dL_law_729 (by decide) e (kk _ hR2)
set_option maxHeartbeats 4000000 in
set_option maxRecDepth 100000 in
theorem lc_film {g : G} {x : Cx} {σ : Sg} {b n : Nat} {f : Nat → Int32} {i : Int} (hO : Ok g x RL cL_law 4 14) (hX : SX x b n f) (hn : n ≤ 3072) (i0 : 0 ≤ i) (i6 : i + 6 ≤ n) (hR : Rel σ) (kk : ∀ σ' : Sg, Rel σ' → Z g x 4 989 [(0, .ref b), (1, .ref (g.2.2.1 0)), (2, .ref (g.2.2.1 113)), (3, vI i)] [] σ') : Z g x 4 734 [(0, .ref b), (1, .ref (g.2.2.1 0)), (2, .ref (g.2.2.1 113)), (3, vI i)] [] σ := by
  obtain ⟨wv, dv, si, s5, s6, p1, p2, gi, sz, tb⟩ := CH_of hR
  refine z_aload_n hO 1 dL_law_734 rfl ?_
  refine z_aload_n hO 0 dL_law_735 rfl ?_
  refine z_iload_n hO 3 dL_law_736 rfl ?_
  refine z_iconst hO dL_law_737 ?_
  refine z_iadd hO dL_law_738 ?_
  refine z_sld hO hX (by omega) hn dL_law_739 ?_
  refine z_aload_n hO 0 dL_law_740 rfl ?_
  refine z_iload_n hO 3 dL_law_741 rfl ?_
  refine z_iconst hO dL_law_742 ?_
  refine z_iadd hO dL_law_743 ?_
  refine z_sld hO hX (by omega) hn dL_law_744 ?_
  refine z_aload_n hO 0 dL_law_745 rfl ?_
  refine z_iload_n hO 3 dL_law_746 rfl ?_
  refine z_iconst hO dL_law_747 ?_
  refine z_iadd hO dL_law_748 ?_
  refine z_sld hO hX (by omega) hn dL_law_749 ?_
  refine z_cvI hO (t_X8_film (scr_r _ _) (scr_r _ _) (scr_r _ _) wv si sz) cv_L_108 rfl rfl rfl rfl (by decide) (Nat.le_of_ble_eq_true rfl) dL_law_750 (fun r1 σ1 q1 => ?_)
  obtain ⟨rw, rd, rn, r2, ru, r3, rt, rz⟩ := RH_hk (RH_of hR) (hk_film q1)
  refine z_aload_n hO 2 dL_law_753 rfl ?_
  refine z_aload_n hO 0 dL_law_754 rfl ?_
  refine z_iload_n hO 3 dL_law_755 rfl ?_
  refine z_iconst hO dL_law_756 ?_
  refine z_iadd hO dL_law_757 ?_
  refine z_sld hO hX (by omega) hn dL_law_758 ?_
  refine z_aload_n hO 0 dL_law_759 rfl ?_
  refine z_iload_n hO 3 dL_law_760 rfl ?_
  refine z_iconst hO dL_law_761 ?_
  refine z_iadd hO dL_law_762 ?_
  refine z_sld hO hX (by omega) hn dL_law_763 ?_
  refine z_aload_n hO 0 dL_law_764 rfl ?_
  refine z_iload_n hO 3 dL_law_765 rfl ?_
  refine z_iconst hO dL_law_766 ?_
  refine z_iadd hO dL_law_767 ?_
  refine z_sld hO hX (by omega) hn dL_law_768 ?_
  refine z_cvI hO (t_X9_film2 (scr_r _ _) (scr_r _ _) (scr_r _ _) rw rz) cv_L_111 rfl rfl rfl rfl (by decide) (Nat.le_of_ble_eq_true rfl) dL_law_769 (fun r2 σ2 q2 => ?_)
  obtain ⟨e, hR2⟩ := q_film hR q1 q2
  exact z_icmpE hO 989 dL_law_772 (by decide) e (kk _ hR2)
set_option maxHeartbeats 4000000 in
set_option maxRecDepth 100000 in
theorem lc_sheet {g : G} {x : Cx} {σ : Sg} {b n : Nat} {f : Nat → Int32} {i : Int} (hO : Ok g x RL cL_law 4 14) (hX : SX x b n f) (hn : n ≤ 3072) (i0 : 0 ≤ i) (i6 : i + 6 ≤ n) (hR : Rel σ) (kk : ∀ σ' : Sg, Rel σ' → Z g x 4 989 [(0, .ref b), (1, .ref (g.2.2.1 0)), (2, .ref (g.2.2.1 113)), (3, vI i)] [] σ') : Z g x 4 777 [(0, .ref b), (1, .ref (g.2.2.1 0)), (2, .ref (g.2.2.1 113)), (3, vI i)] [] σ := by
  obtain ⟨wv, dv, si, s5, s6, p1, p2, gi, sz, tb⟩ := CH_of hR
  refine z_aload_n hO 1 dL_law_777 rfl ?_
  refine z_aload_n hO 0 dL_law_778 rfl ?_
  refine z_iload_n hO 3 dL_law_779 rfl ?_
  refine z_iconst hO dL_law_780 ?_
  refine z_iadd hO dL_law_781 ?_
  refine z_sld hO hX (by omega) hn dL_law_782 ?_
  refine z_aload_n hO 0 dL_law_783 rfl ?_
  refine z_iload_n hO 3 dL_law_784 rfl ?_
  refine z_iconst hO dL_law_785 ?_
  refine z_iadd hO dL_law_786 ?_
  refine z_sld hO hX (by omega) hn dL_law_787 ?_
  refine z_aload_n hO 0 dL_law_788 rfl ?_
  refine z_iload_n hO 3 dL_law_789 rfl ?_
  refine z_iconst hO dL_law_790 ?_
  refine z_iadd hO dL_law_791 ?_
  refine z_sld hO hX (by omega) hn dL_law_792 ?_
  refine z_cvI hO (t_X8_sheet (scr_r _ _) (scr_r _ _) (scr_r _ _) sz) cv_L_112 rfl rfl rfl rfl (by decide) (Nat.le_of_ble_eq_true rfl) dL_law_793 (fun r1 σ1 q1 => ?_)
  obtain ⟨rw, rd, rn, r2, ru, r3, rt, rz⟩ := RH_hk (RH_of hR) (hk_sheet q1)
  refine z_aload_n hO 2 dL_law_796 rfl ?_
  refine z_aload_n hO 0 dL_law_797 rfl ?_
  refine z_iload_n hO 3 dL_law_798 rfl ?_
  refine z_iconst hO dL_law_799 ?_
  refine z_iadd hO dL_law_800 ?_
  refine z_sld hO hX (by omega) hn dL_law_801 ?_
  refine z_aload_n hO 0 dL_law_802 rfl ?_
  refine z_iload_n hO 3 dL_law_803 rfl ?_
  refine z_iconst hO dL_law_804 ?_
  refine z_iadd hO dL_law_805 ?_
  refine z_sld hO hX (by omega) hn dL_law_806 ?_
  refine z_aload_n hO 0 dL_law_807 rfl ?_
  refine z_iload_n hO 3 dL_law_808 rfl ?_
  refine z_iconst hO dL_law_809 ?_
  refine z_iadd hO dL_law_810 ?_
  refine z_sld hO hX (by omega) hn dL_law_811 ?_
  refine z_cvI hO (t_X9_sheet (scr_r _ _) (scr_r _ _) (scr_r _ _)) cv_L_115 rfl rfl rfl rfl (by decide) (Nat.le_of_ble_eq_true rfl) dL_law_812 (fun r2 σ2 q2 => ?_)
  obtain ⟨e, hR2⟩ := q_sheet hR q1 q2
  exact z_icmpE hO 989 dL_law_815 (by decide) e (kk _ hR2)
set_option maxHeartbeats 4000000 in
set_option maxRecDepth 100000 in
theorem lc_drop {g : G} {x : Cx} {σ : Sg} {b n : Nat} {f : Nat → Int32} {i : Int} (hO : Ok g x RL cL_law 4 14) (hX : SX x b n f) (hn : n ≤ 3072) (i0 : 0 ≤ i) (i6 : i + 6 ≤ n) (hR : Rel σ) (kk : ∀ σ' : Sg, Rel σ' → Z g x 4 989 [(0, .ref b), (1, .ref (g.2.2.1 0)), (2, .ref (g.2.2.1 113)), (3, vI i)] [] σ') : Z g x 4 820 [(0, .ref b), (1, .ref (g.2.2.1 0)), (2, .ref (g.2.2.1 113)), (3, vI i)] [] σ := by
  obtain ⟨wv, dv, si, s5, s6, p1, p2, gi, sz, tb⟩ := CH_of hR
  refine z_aload_n hO 1 dL_law_820 rfl ?_
  refine z_aload_n hO 0 dL_law_821 rfl ?_
  refine z_iload_n hO 3 dL_law_822 rfl ?_
  refine z_iconst hO dL_law_823 ?_
  refine z_iadd hO dL_law_824 ?_
  refine z_sld hO hX (by omega) hn dL_law_825 ?_
  refine z_cvI hO (t_X8_drop (scr_r _ _) sz) cv_L_116 rfl rfl rfl rfl (by decide) (Nat.le_of_ble_eq_true rfl) dL_law_826 (fun r1 σ1 q1 => ?_)
  obtain ⟨rw, rd, rn, r2, ru, r3, rt, rz⟩ := RH_hk (RH_of hR) (hk_drop q1)
  refine z_aload_n hO 2 dL_law_829 rfl ?_
  refine z_aload_n hO 0 dL_law_830 rfl ?_
  refine z_iload_n hO 3 dL_law_831 rfl ?_
  refine z_iconst hO dL_law_832 ?_
  refine z_iadd hO dL_law_833 ?_
  refine z_sld hO hX (by omega) hn dL_law_834 ?_
  refine z_cvI hO (t_X9_drop (scr_r _ _)) cv_L_119 rfl rfl rfl rfl (by decide) (Nat.le_of_ble_eq_true rfl) dL_law_835 (fun r2 σ2 q2 => ?_)
  obtain ⟨e, hR2⟩ := q_drop hR q1 q2
  exact z_icmpE hO 989 dL_law_838 (by decide) e (kk _ hR2)
def itV (f : Nat → Int32) (i : Int) : Int64 := (Int64.ofInt (scr f (i + 4)) <<< ((Int32.ofInt 32).toInt64 &&& 63)) ||| (Int64.ofInt (scr f (i + 5)) &&& Int64.ofInt 4294967295)
theorem i64_r (v : Int64) : -9223372036854775808 ≤ v.toInt ∧ v.toInt ≤ 9223372036854775807 := by
  have a := Int64.le_toInt v
  have b := Int64.toInt_lt v
  omega
set_option maxHeartbeats 4000000 in
set_option maxRecDepth 100000 in
theorem lc_item {g : G} {x : Cx} {σ : Sg} {b n : Nat} {f : Nat → Int32} {i : Int} (hO : Ok g x RL cL_law 4 14) (hX : SX x b n f) (hn : n ≤ 3072) (i0 : 0 ≤ i) (i6 : i + 6 ≤ n) (hR : Rel σ) (kk : ∀ σ' : Sg, Rel σ' → Z g x 4 989 [(0, .ref b), (1, .ref (g.2.2.1 0)), (2, .ref (g.2.2.1 113)), (3, vI i)] [] σ') : Z g x 4 843 [(0, .ref b), (1, .ref (g.2.2.1 0)), (2, .ref (g.2.2.1 113)), (3, vI i)] [] σ := by
  obtain ⟨wv, dv, si, s5, s6, p1, p2, gi, sz, tb⟩ := CH_of hR
  refine z_aload_n hO 1 dL_law_843 rfl ?_
  refine z_aload_n hO 0 dL_law_844 rfl ?_
  refine z_iload_n hO 3 dL_law_845 rfl ?_
  refine z_iconst hO dL_law_846 ?_
  refine z_iadd hO dL_law_847 ?_
  refine z_sld hO hX (by omega) hn dL_law_848 ?_
  refine z_aload_n hO 0 dL_law_849 rfl ?_
  refine z_iload_n hO 3 dL_law_850 rfl ?_
  refine z_iconst hO dL_law_851 ?_
  refine z_iadd hO dL_law_852 ?_
  refine z_sld hO hX (by omega) hn dL_law_853 ?_
  refine z_aload_n hO 0 dL_law_854 rfl ?_
  refine z_iload_n hO 3 dL_law_855 rfl ?_
  refine z_iconst hO dL_law_856 ?_
  refine z_iadd hO dL_law_857 ?_
  refine z_sld hO hX (by omega) hn dL_law_858 ?_
  refine z_aload_n hO 0 dL_law_859 rfl ?_
  refine z_iload_n hO 3 dL_law_860 rfl ?_
  refine z_iconst hO dL_law_861 ?_
  refine z_iadd hO dL_law_862 ?_
  refine z_sld hO hX (by omega) hn dL_law_863 ?_
  refine z_i2l hO dL_law_864 (scr_r _ _) ?_
  refine z_bipush hO dL_law_865 (by decide) ?_
  refine z_lshl hO (Int64.ofInt (scr f (i + 4)) <<< ((Int32.ofInt 32).toInt64 &&& 63)).toInt dL_law_867 (Int64.ofInt_toInt _).symm ?_
  refine z_aload_n hO 0 dL_law_868 rfl ?_
  refine z_iload_n hO 3 dL_law_869 rfl ?_
  refine z_iconst hO dL_law_870 ?_
  refine z_iadd hO dL_law_871 ?_
  refine z_sld hO hX (by omega) hn dL_law_872 ?_
  refine z_i2l hO dL_law_873 (scr_r _ _) ?_
  refine z_ldc2 hO k_L_120 dL_law_874 ?_
  refine z_land hO (Int64.ofInt (scr f (i + 5)) &&& Int64.ofInt 4294967295).toInt dL_law_877 (Int64.ofInt_toInt _).symm ?_
  refine z_lor hO (itV f i).toInt dL_law_878 (by rw [Int64.ofInt_toInt, Int64.ofInt_toInt, Int64.ofInt_toInt]; rfl) ?_
  refine z_cvI hO (t_X8_item (scr_r _ _) (scr_r _ _) (scr_r _ _) (i64_r _) sz) cv_L_122 rfl rfl rfl rfl (by decide) (Nat.le_of_ble_eq_true rfl) dL_law_879 (fun r1 σ1 q1 => ?_)
  obtain ⟨rw, rd, rn, r2, ru, r3, rt, rz⟩ := RH_hk (RH_of hR) (hk_item q1)
  refine z_aload_n hO 2 dL_law_882 rfl ?_
  refine z_aload_n hO 0 dL_law_883 rfl ?_
  refine z_iload_n hO 3 dL_law_884 rfl ?_
  refine z_iconst hO dL_law_885 ?_
  refine z_iadd hO dL_law_886 ?_
  refine z_sld hO hX (by omega) hn dL_law_887 ?_
  refine z_aload_n hO 0 dL_law_888 rfl ?_
  refine z_iload_n hO 3 dL_law_889 rfl ?_
  refine z_iconst hO dL_law_890 ?_
  refine z_iadd hO dL_law_891 ?_
  refine z_sld hO hX (by omega) hn dL_law_892 ?_
  refine z_aload_n hO 0 dL_law_893 rfl ?_
  refine z_iload_n hO 3 dL_law_894 rfl ?_
  refine z_iconst hO dL_law_895 ?_
  refine z_iadd hO dL_law_896 ?_
  refine z_sld hO hX (by omega) hn dL_law_897 ?_
  refine z_aload_n hO 0 dL_law_898 rfl ?_
  refine z_iload_n hO 3 dL_law_899 rfl ?_
  refine z_iconst hO dL_law_900 ?_
  refine z_iadd hO dL_law_901 ?_
  refine z_sld hO hX (by omega) hn dL_law_902 ?_
  refine z_i2l hO dL_law_903 (scr_r _ _) ?_
  refine z_bipush hO dL_law_904 (by decide) ?_
  refine z_lshl hO (Int64.ofInt (scr f (i + 4)) <<< ((Int32.ofInt 32).toInt64 &&& 63)).toInt dL_law_906 (Int64.ofInt_toInt _).symm ?_
  refine z_aload_n hO 0 dL_law_907 rfl ?_
  refine z_iload_n hO 3 dL_law_908 rfl ?_
  refine z_iconst hO dL_law_909 ?_
  refine z_iadd hO dL_law_910 ?_
  refine z_sld hO hX (by omega) hn dL_law_911 ?_
  refine z_i2l hO dL_law_912 (scr_r _ _) ?_
  refine z_ldc2 hO k_L_120 dL_law_913 ?_
  refine z_land hO (Int64.ofInt (scr f (i + 5)) &&& Int64.ofInt 4294967295).toInt dL_law_916 (Int64.ofInt_toInt _).symm ?_
  refine z_lor hO (itV f i).toInt dL_law_917 (by rw [Int64.ofInt_toInt, Int64.ofInt_toInt, Int64.ofInt_toInt]; rfl) ?_
  refine z_cvI hO (t_X9_item (scr_r _ _) (scr_r _ _) (scr_r _ _) (i64_r _) rz) cv_L_126 rfl rfl rfl rfl (by decide) (Nat.le_of_ble_eq_true rfl) dL_law_918 (fun r2 σ2 q2 => ?_)
  obtain ⟨e, hR2⟩ := q_item hR q1 q2
  exact z_icmpE hO 989 dL_law_921 (by decide) e (kk _ hR2)
set_option maxHeartbeats 4000000 in
set_option maxRecDepth 100000 in
theorem lc_copy {g : G} {x : Cx} {σ : Sg} {b n : Nat} {f : Nat → Int32} {i : Int} (hO : Ok g x RL cL_law 4 14) (hX : SX x b n f) (hn : n ≤ 3072) (i0 : 0 ≤ i) (i6 : i + 6 ≤ n) (hR : Rel σ) (kk : ∀ σ' : Sg, Rel σ' → Z g x 4 989 [(0, .ref b), (1, .ref (g.2.2.1 0)), (2, .ref (g.2.2.1 113)), (3, vI i)] [] σ') : Z g x 4 926 [(0, .ref b), (1, .ref (g.2.2.1 0)), (2, .ref (g.2.2.1 113)), (3, vI i)] [] σ := by
  obtain ⟨wv, dv, si, s5, s6, p1, p2, gi, sz, tb⟩ := CH_of hR
  refine z_aload_n hO 1 dL_law_926 rfl ?_
  refine z_aload_n hO 0 dL_law_927 rfl ?_
  refine z_iload_n hO 3 dL_law_928 rfl ?_
  refine z_iconst hO dL_law_929 ?_
  refine z_iadd hO dL_law_930 ?_
  refine z_sld hO hX (by omega) hn dL_law_931 ?_
  refine z_aload_n hO 0 dL_law_932 rfl ?_
  refine z_iload_n hO 3 dL_law_933 rfl ?_
  refine z_iconst hO dL_law_934 ?_
  refine z_iadd hO dL_law_935 ?_
  refine z_sld hO hX (by omega) hn dL_law_936 ?_
  refine z_aload_n hO 0 dL_law_937 rfl ?_
  refine z_iload_n hO 3 dL_law_938 rfl ?_
  refine z_iconst hO dL_law_939 ?_
  refine z_iadd hO dL_law_940 ?_
  refine z_sld hO hX (by omega) hn dL_law_941 ?_
  refine z_aload_n hO 0 dL_law_942 rfl ?_
  refine z_iload_n hO 3 dL_law_943 rfl ?_
  refine z_iconst hO dL_law_944 ?_
  refine z_iadd hO dL_law_945 ?_
  refine z_sld hO hX (by omega) hn dL_law_946 ?_
  refine z_aload_n hO 0 dL_law_947 rfl ?_
  refine z_iload_n hO 3 dL_law_948 rfl ?_
  refine z_iconst hO dL_law_949 ?_
  refine z_iadd hO dL_law_950 ?_
  refine z_sld hO hX (by omega) hn dL_law_951 ?_
  refine z_cvI hO (t_X8_copy (scr_r _ _) (scr_r _ _) (scr_r _ _) (scr_r _ _) (scr_r _ _) sz) cv_L_127 rfl rfl rfl rfl (by decide) (Nat.le_of_ble_eq_true rfl) dL_law_952 (fun r1 σ1 q1 => ?_)
  obtain ⟨rw, rd, rn, r2, ru, r3, rt, rz⟩ := RH_hk (RH_of hR) (hk_copy q1)
  refine z_aload_n hO 2 dL_law_955 rfl ?_
  refine z_aload_n hO 0 dL_law_956 rfl ?_
  refine z_iload_n hO 3 dL_law_957 rfl ?_
  refine z_iconst hO dL_law_958 ?_
  refine z_iadd hO dL_law_959 ?_
  refine z_sld hO hX (by omega) hn dL_law_960 ?_
  refine z_aload_n hO 0 dL_law_961 rfl ?_
  refine z_iload_n hO 3 dL_law_962 rfl ?_
  refine z_iconst hO dL_law_963 ?_
  refine z_iadd hO dL_law_964 ?_
  refine z_sld hO hX (by omega) hn dL_law_965 ?_
  refine z_aload_n hO 0 dL_law_966 rfl ?_
  refine z_iload_n hO 3 dL_law_967 rfl ?_
  refine z_iconst hO dL_law_968 ?_
  refine z_iadd hO dL_law_969 ?_
  refine z_sld hO hX (by omega) hn dL_law_970 ?_
  refine z_aload_n hO 0 dL_law_971 rfl ?_
  refine z_iload_n hO 3 dL_law_972 rfl ?_
  refine z_iconst hO dL_law_973 ?_
  refine z_iadd hO dL_law_974 ?_
  refine z_sld hO hX (by omega) hn dL_law_975 ?_
  refine z_aload_n hO 0 dL_law_976 rfl ?_
  refine z_iload_n hO 3 dL_law_977 rfl ?_
  refine z_iconst hO dL_law_978 ?_
  refine z_iadd hO dL_law_979 ?_
  refine z_sld hO hX (by omega) hn dL_law_980 ?_
  refine z_cvI hO (t_X9_copy (scr_r _ _) (scr_r _ _) (scr_r _ _) (scr_r _ _) (scr_r _ _) rz) cv_L_131 rfl rfl rfl rfl (by decide) (Nat.le_of_ble_eq_true rfl) dL_law_981 (fun r2 σ2 q2 => ?_)
  obtain ⟨e, hR2⟩ := q_copy hR q1 q2
  exact z_icmpE hO 989 dL_law_984 (by decide) e (kk _ hR2)
